/-! ===== the law's helpers, printed ===== -/
theorem dL_addGroup_0 : decode cL_addGroup 0 = .ok (.aload_n 2, 1) := by decide +kernel
theorem dL_addGroup_1 : decode cL_addGroup 1 = .ok (.iconst 0, 1) := by decide +kernel
theorem dL_addGroup_2 : decode cL_addGroup 2 = .ok (.aload_n 0, 1) := by decide +kernel
theorem dL_addGroup_3 : decode cL_addGroup 3 = .ok (.iload_n 1, 1) := by decide +kernel
theorem dL_addGroup_4 : decode cL_addGroup 4 = .ok (.invokevirtual 7, 3) := by decide +kernel
theorem dL_addGroup_7 : decode cL_addGroup 7 = .ok (.i2l, 1) := by decide +kernel
theorem dL_addGroup_8 : decode cL_addGroup 8 = .ok (.lastore, 1) := by decide +kernel
theorem dL_addGroup_9 : decode cL_addGroup 9 = .ok (.goto 9, 3) := by decide +kernel
theorem dL_addGroup_12 : decode cL_addGroup 12 = .ok (.astore_n 3, 1) := by decide +kernel
theorem dL_addGroup_13 : decode cL_addGroup 13 = .ok (.iconst 1, 1) := by decide +kernel
theorem dL_addGroup_14 : decode cL_addGroup 14 = .ok (.ireturn, 1) := by decide +kernel
theorem dL_addGroup_15 : decode cL_addGroup 15 = .ok (.astore_n 3, 1) := by decide +kernel
theorem dL_addGroup_16 : decode cL_addGroup 16 = .ok (.iconst 2, 1) := by decide +kernel
theorem dL_addGroup_17 : decode cL_addGroup 17 = .ok (.ireturn, 1) := by decide +kernel
theorem dL_addGroup_18 : decode cL_addGroup 18 = .ok (.iconst 0, 1) := by decide +kernel
theorem dL_addGroup_19 : decode cL_addGroup 19 = .ok (.ireturn, 1) := by decide +kernel
set_option maxRecDepth 20000 in
theorem ggL_addRectangle_X7_addRectangle : GoodIn wsL_addRectangle wsX7_addRectangle := goodIn_ca (goodIn_ca (goodIn_ca (goodIn_r _ [8, 9, 10, 11, 12, 13, 14, 15, 16, 17, 7, 18, 19, 20, 21, 22, 23, 24, 25, 26, 27, 28, 29, 30, 31, 32, 33, 34, 35, 36, 37, 38, 39, 40, 41, 42, 43, 44, 45, 46, 47, 48, 49, 50, 51, 52, 53, 54, 55, 56, 57, 58, 59, 60, 61, 62, 63, 64, 65, 66, 67, 68, 69, 70, 71, 72, 73, 74, 75, 76, 77, 78, 79, 80, 81, 82, 83, 84, 85, 86, 87, 88, 89, 90, 91, 92, 93, 94, 95, 96, 97, 98, 99, 100, 101, 102, 103, 104, 105, 106, 107, 108, 109, 110, 111, 112, 113, 114, 115, 116, 117, 118, 119, 120, 121, 122, 123, 124, 125, 126, 127, 128, 129, 130, 131, 132, 133, 134, 135, 136, 137, 138, 139, 140, 141, 142, 143, 144, 145, 146, 147, 148, 149, 150, 151, 152, 153, 154, 155, 156, 157, 158, 159, 160, 161, 162, 163, 164, 165, 166, 167, 168, 169, 170, 171, 172, 173, 174, 175, 176, 177, 178, 179, 180, 181, 182, 183, 184, 185, 186, 187, 188, 189, 190, 191, 192, 193, 194, 195, 196, 197, 198, 199, 200, 201, 202, 203, 204, 205, 206, 207, 208, 209, 210, 211, 212, 213, 214, 215, 216, 217, 218, 219, 220, 221, 222, 223, 224, 225, 226, 227, 228, 229, 230, 231, 232, 233, 234, 235, 236, 237, 238, 239, 240, 241, 242, 243, 244, 245, 246, 247, 248, 249] (by decide +kernel) (by decide +kernel)) (goodIn_sub (fun _ h => List.mem_cons_of_mem _ (List.mem_append_left _ (List.mem_append_left _ (List.mem_append_right _ h)))) (by decide +kernel))) (goodIn_sub (fun _ h => List.mem_cons_of_mem _ (List.mem_append_left _ (List.mem_append_right _ h))) (by decide +kernel))) (goodIn_sub (fun _ h => List.mem_cons_of_mem _ (List.mem_append_right _ h)) (by decide +kernel))
set_option maxRecDepth 20000 in
theorem gL_addRectangle_X7_addRectangle : GoodIn wsL_addRectangle (wsV RL 17 RX7 yX7_addRectangle wsX7_addRectangle) := goodIn_app (goodIn_of _ (by decide +kernel)) ggL_addRectangle_X7_addRectangle
theorem dL_addRectangle_0 : decode cL_addRectangle 0 = .ok (.aload 6, 2) := by decide +kernel
theorem dL_addRectangle_2 : decode cL_addRectangle 2 = .ok (.iconst 0, 1) := by decide +kernel
theorem dL_addRectangle_3 : decode cL_addRectangle 3 = .ok (.aload_n 0, 1) := by decide +kernel
theorem dL_addRectangle_4 : decode cL_addRectangle 4 = .ok (.iload_n 1, 1) := by decide +kernel
theorem dL_addRectangle_5 : decode cL_addRectangle 5 = .ok (.iload_n 2, 1) := by decide +kernel
theorem dL_addRectangle_6 : decode cL_addRectangle 6 = .ok (.iload_n 3, 1) := by decide +kernel
theorem dL_addRectangle_7 : decode cL_addRectangle 7 = .ok (.iload 4, 2) := by decide +kernel
theorem dL_addRectangle_9 : decode cL_addRectangle 9 = .ok (.iload 5, 2) := by decide +kernel
theorem dL_addRectangle_11 : decode cL_addRectangle 11 = .ok (.invokevirtual 17, 3) := by decide +kernel
theorem dL_addRectangle_14 : decode cL_addRectangle 14 = .ok (.i2l, 1) := by decide +kernel
theorem dL_addRectangle_15 : decode cL_addRectangle 15 = .ok (.lastore, 1) := by decide +kernel
theorem dL_addRectangle_16 : decode cL_addRectangle 16 = .ok (.goto 15, 3) := by decide +kernel
theorem dL_addRectangle_19 : decode cL_addRectangle 19 = .ok (.astore 7, 2) := by decide +kernel
theorem dL_addRectangle_21 : decode cL_addRectangle 21 = .ok (.iconst 1, 1) := by decide +kernel
theorem dL_addRectangle_22 : decode cL_addRectangle 22 = .ok (.ireturn, 1) := by decide +kernel
theorem dL_addRectangle_23 : decode cL_addRectangle 23 = .ok (.astore 7, 2) := by decide +kernel
theorem dL_addRectangle_25 : decode cL_addRectangle 25 = .ok (.iconst 2, 1) := by decide +kernel
theorem dL_addRectangle_26 : decode cL_addRectangle 26 = .ok (.ireturn, 1) := by decide +kernel
theorem dL_addRectangle_27 : decode cL_addRectangle 27 = .ok (.astore 7, 2) := by decide +kernel
theorem dL_addRectangle_29 : decode cL_addRectangle 29 = .ok (.iconst 3, 1) := by decide +kernel
theorem dL_addRectangle_30 : decode cL_addRectangle 30 = .ok (.ireturn, 1) := by decide +kernel
theorem dL_addRectangle_31 : decode cL_addRectangle 31 = .ok (.iconst 0, 1) := by decide +kernel
theorem dL_addRectangle_32 : decode cL_addRectangle 32 = .ok (.ireturn, 1) := by decide +kernel
set_option maxRecDepth 20000 in
theorem ggL_addDisc_X7_addDisc : GoodIn wsL_addDisc wsX7_addDisc := goodIn_ca (goodIn_ca (goodIn_ca (goodIn_r _ [8, 9, 10, 11, 12, 13, 14, 7, 15, 16, 17, 18, 19, 20, 21, 22, 23, 24, 25, 26, 27, 28, 29, 30, 31, 32, 33, 34, 35, 36, 37, 38, 39, 40, 41, 42, 43, 44, 45, 46, 47, 48, 49, 50, 51, 52, 53, 54, 55, 56, 57, 58, 59, 60, 61, 62, 63, 64, 65, 66, 67, 68, 69, 70, 71, 72, 73, 74, 75, 76, 77, 78, 79, 80, 81, 82, 83, 84, 85, 86, 87, 88, 89, 90, 91, 92, 93, 94, 95, 96, 97, 98, 99, 100, 101, 102, 103, 104, 105, 106, 107, 108, 109, 110, 111, 112, 113, 114, 115, 116, 117, 118, 119, 120, 121, 122, 123, 124, 125, 126, 127, 128, 129, 130, 131, 132, 133, 134, 135, 136, 137, 138, 139, 140, 141, 142, 143, 144, 145, 146, 147, 148, 149, 150, 151, 152, 153, 154, 155, 156, 157, 158, 159, 160, 161, 162, 163, 164, 165, 166, 167, 168, 169, 170, 171, 172, 173, 174, 175, 176, 177, 178, 179, 180, 181, 182, 183, 184, 185, 186, 187, 188, 189, 190, 191, 192, 193, 194, 195, 196, 197, 198, 199, 200, 201, 202, 203, 204, 205, 206, 207, 208, 209, 210, 211, 212, 213, 214, 215, 216, 217, 218, 219, 220, 221, 222, 223, 224, 225, 226, 227, 228, 229, 230, 231, 232, 233, 234, 235, 236, 237, 238, 239, 240, 241, 242, 243, 244, 245, 246, 247, 248, 249, 250, 251, 252, 253, 254] (by decide +kernel) (by decide +kernel)) (goodIn_sub (fun _ h => List.mem_cons_of_mem _ (List.mem_append_left _ (List.mem_append_left _ (List.mem_append_right _ h)))) (by decide +kernel))) (goodIn_sub (fun _ h => List.mem_cons_of_mem _ (List.mem_append_left _ (List.mem_append_right _ h))) (by decide +kernel))) (goodIn_sub (fun _ h => List.mem_cons_of_mem _ (List.mem_append_right _ h)) (by decide +kernel))
set_option maxRecDepth 20000 in
theorem gL_addDisc_X7_addDisc : GoodIn wsL_addDisc (wsV RL 23 RX7 yX7_addDisc wsX7_addDisc) := goodIn_app (goodIn_of _ (by decide +kernel)) ggL_addDisc_X7_addDisc
theorem dL_addDisc_0 : decode cL_addDisc 0 = .ok (.aload 5, 2) := by decide +kernel
theorem dL_addDisc_2 : decode cL_addDisc 2 = .ok (.iconst 0, 1) := by decide +kernel
theorem dL_addDisc_3 : decode cL_addDisc 3 = .ok (.aload_n 0, 1) := by decide +kernel
theorem dL_addDisc_4 : decode cL_addDisc 4 = .ok (.iload_n 1, 1) := by decide +kernel
theorem dL_addDisc_5 : decode cL_addDisc 5 = .ok (.iload_n 2, 1) := by decide +kernel
theorem dL_addDisc_6 : decode cL_addDisc 6 = .ok (.iload_n 3, 1) := by decide +kernel
theorem dL_addDisc_7 : decode cL_addDisc 7 = .ok (.iload 4, 2) := by decide +kernel
theorem dL_addDisc_9 : decode cL_addDisc 9 = .ok (.invokevirtual 23, 3) := by decide +kernel
theorem dL_addDisc_12 : decode cL_addDisc 12 = .ok (.i2l, 1) := by decide +kernel
theorem dL_addDisc_13 : decode cL_addDisc 13 = .ok (.lastore, 1) := by decide +kernel
theorem dL_addDisc_14 : decode cL_addDisc 14 = .ok (.goto 15, 3) := by decide +kernel
theorem dL_addDisc_17 : decode cL_addDisc 17 = .ok (.astore 6, 2) := by decide +kernel
theorem dL_addDisc_19 : decode cL_addDisc 19 = .ok (.iconst 1, 1) := by decide +kernel
theorem dL_addDisc_20 : decode cL_addDisc 20 = .ok (.ireturn, 1) := by decide +kernel
theorem dL_addDisc_21 : decode cL_addDisc 21 = .ok (.astore 6, 2) := by decide +kernel
theorem dL_addDisc_23 : decode cL_addDisc 23 = .ok (.iconst 2, 1) := by decide +kernel
theorem dL_addDisc_24 : decode cL_addDisc 24 = .ok (.ireturn, 1) := by decide +kernel
theorem dL_addDisc_25 : decode cL_addDisc 25 = .ok (.astore 6, 2) := by decide +kernel
theorem dL_addDisc_27 : decode cL_addDisc 27 = .ok (.iconst 3, 1) := by decide +kernel
theorem dL_addDisc_28 : decode cL_addDisc 28 = .ok (.ireturn, 1) := by decide +kernel
theorem dL_addDisc_29 : decode cL_addDisc 29 = .ok (.iconst 0, 1) := by decide +kernel
theorem dL_addDisc_30 : decode cL_addDisc 30 = .ok (.ireturn, 1) := by decide +kernel
set_option maxRecDepth 20000 in
theorem ggL_addTriangle_X7_addTriangle : GoodIn wsL_addTriangle wsX7_addTriangle := goodIn_ca (goodIn_ca (goodIn_ca (goodIn_r _ [8, 9, 10, 11, 12, 13, 14, 15, 16, 17, 18, 19, 20, 21, 22, 23, 24, 7, 25, 26, 27, 28, 29, 30, 31, 32, 33, 34, 35, 36, 37, 38, 39, 40, 41, 42, 43, 44, 45, 46, 47, 48, 49, 50, 51, 52, 53, 54, 55, 56, 57, 58, 59, 60, 61, 62, 63, 64, 65, 66, 67, 68, 69, 70, 71, 72, 73, 74, 75, 76, 77, 78, 79, 80, 81, 82, 83, 84, 85, 86, 87, 88, 89, 90, 91, 92, 93, 94, 95, 96, 97, 98, 99, 100, 101, 102, 103, 104, 105, 106, 107, 108, 109, 110, 111, 112, 113, 114, 115, 116, 117, 118, 119, 120, 121, 122, 123, 124, 125, 126, 127, 128, 129, 130, 131, 132, 133, 134, 135, 136, 137, 138, 139, 140, 141, 142, 143, 144, 145, 146, 147, 148, 149, 150, 151, 152, 153, 154, 155, 156, 157, 158, 159, 160, 161, 162, 163, 164, 165, 166, 167, 168, 169, 170, 171, 172, 173, 174, 175, 176, 177, 178, 179, 180, 181, 182, 183, 184, 185, 186, 187, 188, 189, 190, 191, 192, 193, 194, 195, 196, 197, 198, 199, 200, 201, 202, 203, 204, 205, 206, 207, 208, 209, 210, 211, 212, 213, 214, 215, 216, 217, 218, 219, 220, 221, 222, 223, 224, 225, 226, 227, 228, 229, 230, 231, 232, 233, 234, 235, 236, 237, 238, 239, 240, 241, 242, 243, 244, 245, 246, 247, 248, 249, 250, 251, 252, 253, 254, 255, 256, 257, 258, 259, 260, 261, 262, 263, 264, 265, 266, 267, 268] (by decide +kernel) (by decide +kernel)) (goodIn_sub (fun _ h => List.mem_cons_of_mem _ (List.mem_append_left _ (List.mem_append_left _ (List.mem_append_right _ h)))) (by decide +kernel))) (goodIn_sub (fun _ h => List.mem_cons_of_mem _ (List.mem_append_left _ (List.mem_append_right _ h))) (by decide +kernel))) (goodIn_sub (fun _ h => List.mem_cons_of_mem _ (List.mem_append_right _ h)) (by decide +kernel))
set_option maxRecDepth 20000 in
theorem gL_addTriangle_X7_addTriangle : GoodIn wsL_addTriangle (wsV RL 27 RX7 yX7_addTriangle wsX7_addTriangle) := goodIn_app (goodIn_of _ (by decide +kernel)) ggL_addTriangle_X7_addTriangle
theorem dL_addTriangle_0 : decode cL_addTriangle 0 = .ok (.aload 8, 2) := by decide +kernel
theorem dL_addTriangle_2 : decode cL_addTriangle 2 = .ok (.iconst 0, 1) := by decide +kernel
theorem dL_addTriangle_3 : decode cL_addTriangle 3 = .ok (.aload_n 0, 1) := by decide +kernel
theorem dL_addTriangle_4 : decode cL_addTriangle 4 = .ok (.iload_n 1, 1) := by decide +kernel
theorem dL_addTriangle_5 : decode cL_addTriangle 5 = .ok (.iload_n 2, 1) := by decide +kernel
theorem dL_addTriangle_6 : decode cL_addTriangle 6 = .ok (.iload_n 3, 1) := by decide +kernel
theorem dL_addTriangle_7 : decode cL_addTriangle 7 = .ok (.iload 4, 2) := by decide +kernel
theorem dL_addTriangle_9 : decode cL_addTriangle 9 = .ok (.iload 5, 2) := by decide +kernel
theorem dL_addTriangle_11 : decode cL_addTriangle 11 = .ok (.iload 6, 2) := by decide +kernel
theorem dL_addTriangle_13 : decode cL_addTriangle 13 = .ok (.iload 7, 2) := by decide +kernel
theorem dL_addTriangle_15 : decode cL_addTriangle 15 = .ok (.invokevirtual 27, 3) := by decide +kernel
theorem dL_addTriangle_18 : decode cL_addTriangle 18 = .ok (.i2l, 1) := by decide +kernel
theorem dL_addTriangle_19 : decode cL_addTriangle 19 = .ok (.lastore, 1) := by decide +kernel
theorem dL_addTriangle_20 : decode cL_addTriangle 20 = .ok (.goto 15, 3) := by decide +kernel
theorem dL_addTriangle_23 : decode cL_addTriangle 23 = .ok (.astore 9, 2) := by decide +kernel
theorem dL_addTriangle_25 : decode cL_addTriangle 25 = .ok (.iconst 1, 1) := by decide +kernel
theorem dL_addTriangle_26 : decode cL_addTriangle 26 = .ok (.ireturn, 1) := by decide +kernel
theorem dL_addTriangle_27 : decode cL_addTriangle 27 = .ok (.astore 9, 2) := by decide +kernel
theorem dL_addTriangle_29 : decode cL_addTriangle 29 = .ok (.iconst 2, 1) := by decide +kernel
theorem dL_addTriangle_30 : decode cL_addTriangle 30 = .ok (.ireturn, 1) := by decide +kernel
theorem dL_addTriangle_31 : decode cL_addTriangle 31 = .ok (.astore 9, 2) := by decide +kernel
theorem dL_addTriangle_33 : decode cL_addTriangle 33 = .ok (.iconst 3, 1) := by decide +kernel
theorem dL_addTriangle_34 : decode cL_addTriangle 34 = .ok (.ireturn, 1) := by decide +kernel
theorem dL_addTriangle_35 : decode cL_addTriangle 35 = .ok (.iconst 0, 1) := by decide +kernel
theorem dL_addTriangle_36 : decode cL_addTriangle 36 = .ok (.ireturn, 1) := by decide +kernel
set_option maxRecDepth 20000 in
theorem ggL_remove_X7_remove : GoodIn wsL_remove wsX7_remove := goodIn_ca (goodIn_ca (goodIn_r _ [7, 8, 9, 10, 11, 12, 13, 14, 6, 15, 16, 17, 18, 19, 20, 21, 22, 23, 24, 25, 26, 27, 28, 29, 30, 31, 32, 33, 34, 35, 36, 37, 38, 39, 40, 41, 42, 43, 44, 45, 46, 47, 48, 49, 50, 51, 52, 53, 54, 55, 56, 57, 58, 59, 60, 61, 62, 63, 64, 65, 66, 67, 68, 69, 70, 71, 72, 73, 74, 75, 76, 77, 78, 79, 80, 81, 82, 83, 84, 85, 86, 87, 88, 89, 90, 91, 92, 93, 94, 95, 96, 97, 98, 99, 100, 101, 102, 103, 104, 105, 106, 107, 108, 109, 110, 111, 112, 113, 114, 115, 116, 117, 118, 119, 120, 121, 122, 123, 124, 125, 126, 127, 128, 129, 130, 131, 132, 133, 134, 135, 136, 137, 138, 139, 140, 141, 142, 143, 144, 145, 146, 147, 148, 149, 150, 151, 152, 153, 154, 155, 156, 157, 158, 159, 160, 161, 162, 163, 164, 165, 166, 167, 168, 169, 170, 171, 172, 173, 174, 175, 176, 177, 178, 179] (by decide +kernel) (by decide +kernel)) (goodIn_sub (fun _ h => List.mem_cons_of_mem _ (List.mem_append_left _ (List.mem_append_right _ h))) (by decide +kernel))) (goodIn_sub (fun _ h => List.mem_cons_of_mem _ (List.mem_append_right _ h)) (by decide +kernel))
set_option maxRecDepth 20000 in
theorem gL_remove_X7_remove : GoodIn wsL_remove (wsV RL 31 RX7 yX7_remove wsX7_remove) := goodIn_app (goodIn_of _ (by decide +kernel)) ggL_remove_X7_remove
theorem dL_remove_0 : decode cL_remove 0 = .ok (.aload_n 2, 1) := by decide +kernel
theorem dL_remove_1 : decode cL_remove 1 = .ok (.iconst 0, 1) := by decide +kernel
theorem dL_remove_2 : decode cL_remove 2 = .ok (.aload_n 0, 1) := by decide +kernel
theorem dL_remove_3 : decode cL_remove 3 = .ok (.iload_n 1, 1) := by decide +kernel
theorem dL_remove_4 : decode cL_remove 4 = .ok (.invokevirtual 31, 3) := by decide +kernel
theorem dL_remove_7 : decode cL_remove 7 = .ok (.i2l, 1) := by decide +kernel
theorem dL_remove_8 : decode cL_remove 8 = .ok (.lastore, 1) := by decide +kernel
theorem dL_remove_9 : decode cL_remove 9 = .ok (.goto 9, 3) := by decide +kernel
theorem dL_remove_12 : decode cL_remove 12 = .ok (.astore_n 3, 1) := by decide +kernel
theorem dL_remove_13 : decode cL_remove 13 = .ok (.iconst 1, 1) := by decide +kernel
theorem dL_remove_14 : decode cL_remove 14 = .ok (.ireturn, 1) := by decide +kernel
theorem dL_remove_15 : decode cL_remove 15 = .ok (.astore_n 3, 1) := by decide +kernel
theorem dL_remove_16 : decode cL_remove 16 = .ok (.iconst 2, 1) := by decide +kernel
theorem dL_remove_17 : decode cL_remove 17 = .ok (.ireturn, 1) := by decide +kernel
theorem dL_remove_18 : decode cL_remove 18 = .ok (.iconst 0, 1) := by decide +kernel
theorem dL_remove_19 : decode cL_remove 19 = .ok (.ireturn, 1) := by decide +kernel
set_option maxRecDepth 20000 in
theorem ggL_move_X7_move : GoodIn wsL_move wsX7_move := goodIn_ca (goodIn_ca (goodIn_r _ [7, 8, 9, 10, 11, 12, 13, 14, 15, 6, 16, 17, 18, 19, 20, 21, 22, 23, 24, 25, 26, 27, 28, 29, 30, 31, 32, 33, 34, 35, 36, 37, 38, 39, 40, 41, 42, 43, 44, 45, 46, 47, 48, 49, 50, 51, 52, 53, 54, 55, 56, 57, 58, 59, 60, 61, 62, 63, 64, 65, 66, 67, 68, 69, 70, 71, 72, 73, 74, 75, 76, 77, 78, 79, 80, 81, 82, 83, 84, 85, 86, 87, 88, 89, 90, 91, 92, 93, 94, 95, 96, 97, 98, 99, 100, 101, 102, 103, 104, 105, 106, 107, 108, 109, 110, 111, 112, 113, 114, 115, 116, 117, 118, 119, 120, 121, 122, 123, 124, 125, 126, 127, 128, 129, 130, 131, 132, 133, 134, 135, 136, 137, 138, 139, 140, 141, 142, 143, 144, 145, 146, 147, 148, 149, 150, 151, 152, 153, 154, 155, 156, 157, 158, 159, 160, 161, 162, 163, 164, 165, 166, 167, 168, 169, 170, 171, 172, 173, 174, 175, 176, 177, 178, 179, 180] (by decide +kernel) (by decide +kernel)) (goodIn_sub (fun _ h => List.mem_cons_of_mem _ (List.mem_append_left _ (List.mem_append_right _ h))) (by decide +kernel))) (goodIn_sub (fun _ h => List.mem_cons_of_mem _ (List.mem_append_right _ h)) (by decide +kernel))
set_option maxRecDepth 20000 in
theorem gL_move_X7_move : GoodIn wsL_move (wsV RL 34 RX7 yX7_move wsX7_move) := goodIn_app (goodIn_of _ (by decide +kernel)) ggL_move_X7_move
theorem dL_move_0 : decode cL_move 0 = .ok (.aload 4, 2) := by decide +kernel
theorem dL_move_2 : decode cL_move 2 = .ok (.iconst 0, 1) := by decide +kernel
theorem dL_move_3 : decode cL_move 3 = .ok (.aload_n 0, 1) := by decide +kernel
theorem dL_move_4 : decode cL_move 4 = .ok (.iload_n 1, 1) := by decide +kernel
theorem dL_move_5 : decode cL_move 5 = .ok (.iload_n 2, 1) := by decide +kernel
theorem dL_move_6 : decode cL_move 6 = .ok (.iload_n 3, 1) := by decide +kernel
theorem dL_move_7 : decode cL_move 7 = .ok (.invokevirtual 34, 3) := by decide +kernel
theorem dL_move_10 : decode cL_move 10 = .ok (.i2l, 1) := by decide +kernel
theorem dL_move_11 : decode cL_move 11 = .ok (.lastore, 1) := by decide +kernel
theorem dL_move_12 : decode cL_move 12 = .ok (.goto 11, 3) := by decide +kernel
theorem dL_move_15 : decode cL_move 15 = .ok (.astore 5, 2) := by decide +kernel
theorem dL_move_17 : decode cL_move 17 = .ok (.iconst 1, 1) := by decide +kernel
theorem dL_move_18 : decode cL_move 18 = .ok (.ireturn, 1) := by decide +kernel
theorem dL_move_19 : decode cL_move 19 = .ok (.astore 5, 2) := by decide +kernel
theorem dL_move_21 : decode cL_move 21 = .ok (.iconst 2, 1) := by decide +kernel
theorem dL_move_22 : decode cL_move 22 = .ok (.ireturn, 1) := by decide +kernel
theorem dL_move_23 : decode cL_move 23 = .ok (.iconst 0, 1) := by decide +kernel
theorem dL_move_24 : decode cL_move 24 = .ok (.ireturn, 1) := by decide +kernel
set_option maxRecDepth 20000 in
theorem ggL_node_X7_node : GoodIn wsL_node wsX7_node := goodIn_ca (goodIn_r _ [6, 7, 8, 9, 5, 10, 11, 12, 13, 14, 15, 16, 17, 18, 19, 20, 21, 22, 23, 24, 25, 26, 27, 28, 29, 30, 31, 32, 33, 34, 35, 36, 37, 38, 39, 40, 41, 42, 43, 44, 45, 46, 47, 48, 49, 50, 51, 52, 53, 54, 55, 56, 57, 58, 59, 60, 61, 62, 63, 64, 65, 66, 67, 68, 69, 70, 71, 72, 73, 74, 75, 76, 77, 78, 79, 80, 81, 82, 83, 84, 85, 86, 87, 88, 89, 90, 91, 92, 93, 94, 95, 96, 97, 98, 99, 100] (by decide +kernel) (by decide +kernel)) (goodIn_sub (fun _ h => List.mem_cons_of_mem _ (List.mem_append_right _ h)) (by decide +kernel))
set_option maxRecDepth 20000 in
theorem gL_node_X7_node : GoodIn wsL_node (wsV RL 38 RX7 yX7_node wsX7_node) := goodIn_app (goodIn_of _ (by decide +kernel)) ggL_node_X7_node
theorem dL_node_0 : decode cL_node 0 = .ok (.aload_n 3, 1) := by decide +kernel
theorem dL_node_1 : decode cL_node 1 = .ok (.iconst 0, 1) := by decide +kernel
theorem dL_node_2 : decode cL_node 2 = .ok (.aload_n 0, 1) := by decide +kernel
theorem dL_node_3 : decode cL_node 3 = .ok (.iload_n 1, 1) := by decide +kernel
theorem dL_node_4 : decode cL_node 4 = .ok (.iload_n 2, 1) := by decide +kernel
theorem dL_node_5 : decode cL_node 5 = .ok (.invokevirtual 38, 3) := by decide +kernel
theorem dL_node_8 : decode cL_node 8 = .ok (.i2l, 1) := by decide +kernel
theorem dL_node_9 : decode cL_node 9 = .ok (.lastore, 1) := by decide +kernel
theorem dL_node_10 : decode cL_node 10 = .ok (.goto 7, 3) := by decide +kernel
theorem dL_node_13 : decode cL_node 13 = .ok (.astore 4, 2) := by decide +kernel
theorem dL_node_15 : decode cL_node 15 = .ok (.iconst 1, 1) := by decide +kernel
theorem dL_node_16 : decode cL_node 16 = .ok (.ireturn, 1) := by decide +kernel
theorem dL_node_17 : decode cL_node 17 = .ok (.iconst 0, 1) := by decide +kernel
theorem dL_node_18 : decode cL_node 18 = .ok (.ireturn, 1) := by decide +kernel
set_option maxRecDepth 20000 in
theorem ggL_child_X7_child : GoodIn wsL_child wsX7_child := goodIn_ca (goodIn_r _ [6, 7, 8, 9, 10, 11, 12, 5, 13, 14, 15, 16, 17, 18, 19, 20, 21, 22, 23, 24, 25, 26, 27, 28, 29, 30, 31, 32, 33, 34, 35, 36, 37, 38, 39, 40, 41, 42, 43, 44, 45, 46, 47, 48, 49, 50, 51, 52, 53, 54, 55, 56, 57, 58, 59, 60, 61, 62, 63, 64, 65, 66, 67, 68, 69, 70, 71] (by decide +kernel) (by decide +kernel)) (goodIn_sub (fun _ h => List.mem_cons_of_mem _ (List.mem_append_right _ h)) (by decide +kernel))
set_option maxRecDepth 20000 in
theorem gL_child_X7_child : GoodIn wsL_child (wsV RL 42 RX7 yX7_child wsX7_child) := goodIn_app (goodIn_of _ (by decide +kernel)) ggL_child_X7_child
theorem dL_child_0 : decode cL_child 0 = .ok (.aload_n 3, 1) := by decide +kernel
theorem dL_child_1 : decode cL_child 1 = .ok (.iconst 0, 1) := by decide +kernel
theorem dL_child_2 : decode cL_child 2 = .ok (.aload_n 0, 1) := by decide +kernel
theorem dL_child_3 : decode cL_child 3 = .ok (.iload_n 1, 1) := by decide +kernel
theorem dL_child_4 : decode cL_child 4 = .ok (.iload_n 2, 1) := by decide +kernel
theorem dL_child_5 : decode cL_child 5 = .ok (.invokevirtual 42, 3) := by decide +kernel
theorem dL_child_8 : decode cL_child 8 = .ok (.i2l, 1) := by decide +kernel
theorem dL_child_9 : decode cL_child 9 = .ok (.lastore, 1) := by decide +kernel
theorem dL_child_10 : decode cL_child 10 = .ok (.goto 7, 3) := by decide +kernel
theorem dL_child_13 : decode cL_child 13 = .ok (.astore 4, 2) := by decide +kernel
theorem dL_child_15 : decode cL_child 15 = .ok (.iconst 1, 1) := by decide +kernel
theorem dL_child_16 : decode cL_child 16 = .ok (.ireturn, 1) := by decide +kernel
theorem dL_child_17 : decode cL_child 17 = .ok (.iconst 0, 1) := by decide +kernel
theorem dL_child_18 : decode cL_child 18 = .ok (.ireturn, 1) := by decide +kernel
set_option maxRecDepth 20000 in
theorem ggL_place_X7_place : GoodIn wsL_place wsX7_place := goodIn_ca (goodIn_ca (goodIn_r _ [7, 8, 9, 10, 11, 12, 6, 13, 14, 15, 16, 17, 18, 19, 20, 21, 22, 23, 24, 25, 26, 27, 28, 29, 30, 31, 32, 33, 34, 35, 36, 37, 38, 39, 40, 41, 42, 43, 44, 45, 46, 47, 48, 49, 50, 51, 52, 53, 54, 55, 56, 57, 58, 59, 60, 61, 62, 63, 64, 65, 66, 67, 68, 69, 70, 71, 72, 73, 74, 75, 76, 77, 78, 79, 80, 81, 82, 83, 84, 85, 86, 87, 88, 89, 90, 91, 92, 93, 94, 95, 96, 97, 98, 99, 100, 101, 102, 103, 104, 105, 106, 107, 108, 109, 110, 111, 112, 113, 114, 115, 116, 117, 118, 119, 120, 121, 122, 123, 124, 125, 126, 127, 128, 129, 130, 131, 132, 133, 134, 135, 136, 137, 138, 139, 140, 141, 142, 143, 144, 145, 146, 147, 148, 149, 150, 151, 152, 153, 154, 155, 156, 157, 158, 159, 160, 161, 162, 163, 164, 165, 166, 167, 168, 169] (by decide +kernel) (by decide +kernel)) (goodIn_sub (fun _ h => List.mem_cons_of_mem _ (List.mem_append_left _ (List.mem_append_right _ h))) (by decide +kernel))) (goodIn_sub (fun _ h => List.mem_cons_of_mem _ (List.mem_append_right _ h)) (by decide +kernel))
set_option maxRecDepth 20000 in
theorem gL_place_X7_place : GoodIn wsL_place (wsV RL 45 RX7 yX7_place wsX7_place) := goodIn_app (goodIn_of _ (by decide +kernel)) ggL_place_X7_place
theorem dL_place_0 : decode cL_place 0 = .ok (.aload 4, 2) := by decide +kernel
theorem dL_place_2 : decode cL_place 2 = .ok (.iconst 0, 1) := by decide +kernel
theorem dL_place_3 : decode cL_place 3 = .ok (.aload_n 0, 1) := by decide +kernel
theorem dL_place_4 : decode cL_place 4 = .ok (.iload_n 1, 1) := by decide +kernel
theorem dL_place_5 : decode cL_place 5 = .ok (.iload_n 2, 1) := by decide +kernel
theorem dL_place_6 : decode cL_place 6 = .ok (.iload_n 3, 1) := by decide +kernel
theorem dL_place_7 : decode cL_place 7 = .ok (.invokevirtual 45, 3) := by decide +kernel
theorem dL_place_10 : decode cL_place 10 = .ok (.i2l, 1) := by decide +kernel
theorem dL_place_11 : decode cL_place 11 = .ok (.lastore, 1) := by decide +kernel
theorem dL_place_12 : decode cL_place 12 = .ok (.goto 11, 3) := by decide +kernel
theorem dL_place_15 : decode cL_place 15 = .ok (.astore 5, 2) := by decide +kernel
theorem dL_place_17 : decode cL_place 17 = .ok (.iconst 1, 1) := by decide +kernel
theorem dL_place_18 : decode cL_place 18 = .ok (.ireturn, 1) := by decide +kernel
theorem dL_place_19 : decode cL_place 19 = .ok (.astore 5, 2) := by decide +kernel
theorem dL_place_21 : decode cL_place 21 = .ok (.iconst 2, 1) := by decide +kernel
theorem dL_place_22 : decode cL_place 22 = .ok (.ireturn, 1) := by decide +kernel
theorem dL_place_23 : decode cL_place 23 = .ok (.iconst 0, 1) := by decide +kernel
theorem dL_place_24 : decode cL_place 24 = .ok (.ireturn, 1) := by decide +kernel
set_option maxRecDepth 20000 in
theorem ggL_setFill_X7_setFill : GoodIn wsL_setFill wsX7_setFill := goodIn_ca (goodIn_ca (goodIn_r _ [7, 8, 9, 10, 11, 6, 12, 13, 14, 15, 16, 17, 18, 19, 20, 21, 22, 23, 24, 25, 26, 27, 28, 29, 30, 31, 32, 33, 34, 35, 36, 37, 38, 39, 40, 41, 42, 43, 44, 45, 46, 47, 48, 49, 50, 51, 52, 53, 54, 55, 56, 57, 58, 59, 60, 61, 62, 63, 64, 65, 66, 67, 68, 69, 70, 71, 72, 73, 74, 75, 76, 77, 78, 79, 80, 81, 82, 83, 84, 85, 86, 87, 88, 89, 90, 91, 92, 93, 94, 95, 96, 97, 98, 99, 100, 101, 102, 103, 104, 105, 106, 107, 108, 109, 110, 111, 112, 113, 114, 115, 116, 117, 118, 119, 120, 121, 122, 123, 124, 125, 126, 127, 128, 129, 130, 131, 132, 133, 134, 135, 136, 137, 138, 139, 140, 141, 142, 143, 144, 145, 146, 147, 148, 149, 150, 151, 152, 153, 154, 155, 156, 157, 158, 159, 160, 161, 162, 163, 164, 165] (by decide +kernel) (by decide +kernel)) (goodIn_sub (fun _ h => List.mem_cons_of_mem _ (List.mem_append_left _ (List.mem_append_right _ h))) (by decide +kernel))) (goodIn_sub (fun _ h => List.mem_cons_of_mem _ (List.mem_append_right _ h)) (by decide +kernel))
set_option maxRecDepth 20000 in
theorem gL_setFill_X7_setFill : GoodIn wsL_setFill (wsV RL 48 RX7 yX7_setFill wsX7_setFill) := goodIn_app (goodIn_of _ (by decide +kernel)) ggL_setFill_X7_setFill
theorem dL_setFill_0 : decode cL_setFill 0 = .ok (.aload_n 3, 1) := by decide +kernel
theorem dL_setFill_1 : decode cL_setFill 1 = .ok (.iconst 0, 1) := by decide +kernel
theorem dL_setFill_2 : decode cL_setFill 2 = .ok (.aload_n 0, 1) := by decide +kernel
theorem dL_setFill_3 : decode cL_setFill 3 = .ok (.iload_n 1, 1) := by decide +kernel
theorem dL_setFill_4 : decode cL_setFill 4 = .ok (.iload_n 2, 1) := by decide +kernel
theorem dL_setFill_5 : decode cL_setFill 5 = .ok (.invokevirtual 48, 3) := by decide +kernel
theorem dL_setFill_8 : decode cL_setFill 8 = .ok (.i2l, 1) := by decide +kernel
theorem dL_setFill_9 : decode cL_setFill 9 = .ok (.lastore, 1) := by decide +kernel
theorem dL_setFill_10 : decode cL_setFill 10 = .ok (.goto 11, 3) := by decide +kernel
theorem dL_setFill_13 : decode cL_setFill 13 = .ok (.astore 4, 2) := by decide +kernel
theorem dL_setFill_15 : decode cL_setFill 15 = .ok (.iconst 1, 1) := by decide +kernel
theorem dL_setFill_16 : decode cL_setFill 16 = .ok (.ireturn, 1) := by decide +kernel
theorem dL_setFill_17 : decode cL_setFill 17 = .ok (.astore 4, 2) := by decide +kernel
theorem dL_setFill_19 : decode cL_setFill 19 = .ok (.iconst 2, 1) := by decide +kernel
theorem dL_setFill_20 : decode cL_setFill 20 = .ok (.ireturn, 1) := by decide +kernel
theorem dL_setFill_21 : decode cL_setFill 21 = .ok (.iconst 0, 1) := by decide +kernel
theorem dL_setFill_22 : decode cL_setFill 22 = .ok (.ireturn, 1) := by decide +kernel
set_option maxRecDepth 20000 in
theorem ggL_setOpacity_X7_setOpacity : GoodIn wsL_setOpacity wsX7_setOpacity := goodIn_ca (goodIn_ca (goodIn_r _ [7, 8, 9, 10, 11, 12, 6, 13, 14, 15, 16, 17, 18, 19, 20, 21, 22, 23, 24, 25, 26, 27, 28, 29, 30, 31, 32, 33, 34, 35, 36, 37, 38, 39, 40, 41, 42, 43, 44, 45, 46, 47, 48, 49, 50, 51, 52, 53, 54, 55, 56, 57, 58, 59, 60, 61, 62, 63, 64, 65, 66, 67, 68, 69, 70, 71, 72, 73, 74, 75, 76, 77, 78, 79, 80, 81, 82, 83, 84, 85, 86, 87, 88, 89, 90, 91, 92, 93, 94, 95, 96, 97, 98, 99, 100, 101, 102, 103, 104, 105, 106, 107, 108, 109, 110, 111, 112, 113, 114, 115, 116, 117, 118, 119, 120, 121, 122, 123, 124, 125, 126, 127, 128, 129, 130, 131, 132, 133, 134, 135, 136, 137, 138, 139, 140, 141, 142, 143, 144, 145, 146, 147, 148, 149, 150, 151, 152, 153, 154, 155, 156, 157, 158, 159, 160, 161, 162, 163, 164, 165, 166] (by decide +kernel) (by decide +kernel)) (goodIn_sub (fun _ h => List.mem_cons_of_mem _ (List.mem_append_left _ (List.mem_append_right _ h))) (by decide +kernel))) (goodIn_sub (fun _ h => List.mem_cons_of_mem _ (List.mem_append_right _ h)) (by decide +kernel))
set_option maxRecDepth 20000 in
theorem gL_setOpacity_X7_setOpacity : GoodIn wsL_setOpacity (wsV RL 51 RX7 yX7_setOpacity wsX7_setOpacity) := goodIn_app (goodIn_of _ (by decide +kernel)) ggL_setOpacity_X7_setOpacity
theorem dL_setOpacity_0 : decode cL_setOpacity 0 = .ok (.aload 4, 2) := by decide +kernel
theorem dL_setOpacity_2 : decode cL_setOpacity 2 = .ok (.iconst 0, 1) := by decide +kernel
theorem dL_setOpacity_3 : decode cL_setOpacity 3 = .ok (.aload_n 0, 1) := by decide +kernel
theorem dL_setOpacity_4 : decode cL_setOpacity 4 = .ok (.iload_n 1, 1) := by decide +kernel
theorem dL_setOpacity_5 : decode cL_setOpacity 5 = .ok (.iload_n 2, 1) := by decide +kernel
theorem dL_setOpacity_6 : decode cL_setOpacity 6 = .ok (.iload_n 3, 1) := by decide +kernel
theorem dL_setOpacity_7 : decode cL_setOpacity 7 = .ok (.invokevirtual 51, 3) := by decide +kernel
theorem dL_setOpacity_10 : decode cL_setOpacity 10 = .ok (.i2l, 1) := by decide +kernel
theorem dL_setOpacity_11 : decode cL_setOpacity 11 = .ok (.lastore, 1) := by decide +kernel
theorem dL_setOpacity_12 : decode cL_setOpacity 12 = .ok (.goto 11, 3) := by decide +kernel
theorem dL_setOpacity_15 : decode cL_setOpacity 15 = .ok (.astore 5, 2) := by decide +kernel
theorem dL_setOpacity_17 : decode cL_setOpacity 17 = .ok (.iconst 1, 1) := by decide +kernel
theorem dL_setOpacity_18 : decode cL_setOpacity 18 = .ok (.ireturn, 1) := by decide +kernel
theorem dL_setOpacity_19 : decode cL_setOpacity 19 = .ok (.astore 5, 2) := by decide +kernel
theorem dL_setOpacity_21 : decode cL_setOpacity 21 = .ok (.iconst 2, 1) := by decide +kernel
theorem dL_setOpacity_22 : decode cL_setOpacity 22 = .ok (.ireturn, 1) := by decide +kernel
theorem dL_setOpacity_23 : decode cL_setOpacity 23 = .ok (.iconst 0, 1) := by decide +kernel
theorem dL_setOpacity_24 : decode cL_setOpacity 24 = .ok (.ireturn, 1) := by decide +kernel
set_option maxRecDepth 20000 in
theorem ggL_setClip_X7_setClip : GoodIn wsL_setClip wsX7_setClip := goodIn_ca (goodIn_ca (goodIn_r _ [7, 8, 9, 10, 11, 12, 13, 14, 6, 15, 16, 17, 18, 19, 20, 21, 22, 23, 24, 25, 26, 27, 28, 29, 30, 31, 32, 33, 34, 35, 36, 37, 38, 39, 40, 41, 42, 43, 44, 45, 46, 47, 48, 49, 50, 51, 52, 53, 54, 55, 56, 57, 58, 59, 60, 61, 62, 63, 64, 65, 66, 67, 68, 69] (by decide +kernel) (by decide +kernel)) (goodIn_sub (fun _ h => List.mem_cons_of_mem _ (List.mem_append_left _ (List.mem_append_right _ h))) (by decide +kernel))) (goodIn_sub (fun _ h => List.mem_cons_of_mem _ (List.mem_append_right _ h)) (by decide +kernel))
set_option maxRecDepth 20000 in
theorem gL_setClip_X7_setClip : GoodIn wsL_setClip (wsV RL 55 RX7 yX7_setClip wsX7_setClip) := goodIn_app (goodIn_of _ (by decide +kernel)) ggL_setClip_X7_setClip
theorem dL_setClip_0 : decode cL_setClip 0 = .ok (.aload 6, 2) := by decide +kernel
theorem dL_setClip_2 : decode cL_setClip 2 = .ok (.iconst 0, 1) := by decide +kernel
theorem dL_setClip_3 : decode cL_setClip 3 = .ok (.aload_n 0, 1) := by decide +kernel
theorem dL_setClip_4 : decode cL_setClip 4 = .ok (.iload_n 1, 1) := by decide +kernel
theorem dL_setClip_5 : decode cL_setClip 5 = .ok (.iload_n 2, 1) := by decide +kernel
theorem dL_setClip_6 : decode cL_setClip 6 = .ok (.iload_n 3, 1) := by decide +kernel
theorem dL_setClip_7 : decode cL_setClip 7 = .ok (.iload 4, 2) := by decide +kernel
theorem dL_setClip_9 : decode cL_setClip 9 = .ok (.iload 5, 2) := by decide +kernel
theorem dL_setClip_11 : decode cL_setClip 11 = .ok (.invokevirtual 55, 3) := by decide +kernel
theorem dL_setClip_14 : decode cL_setClip 14 = .ok (.ifCond .eq 7, 3) := by decide +kernel
theorem dL_setClip_17 : decode cL_setClip 17 = .ok (.lconst 1, 1) := by decide +kernel
theorem dL_setClip_18 : decode cL_setClip 18 = .ok (.goto 4, 3) := by decide +kernel
theorem dL_setClip_21 : decode cL_setClip 21 = .ok (.lconst 0, 1) := by decide +kernel
theorem dL_setClip_22 : decode cL_setClip 22 = .ok (.lastore, 1) := by decide +kernel
theorem dL_setClip_23 : decode cL_setClip 23 = .ok (.goto 11, 3) := by decide +kernel
theorem dL_setClip_26 : decode cL_setClip 26 = .ok (.astore 7, 2) := by decide +kernel
theorem dL_setClip_28 : decode cL_setClip 28 = .ok (.iconst 1, 1) := by decide +kernel
theorem dL_setClip_29 : decode cL_setClip 29 = .ok (.ireturn, 1) := by decide +kernel
theorem dL_setClip_30 : decode cL_setClip 30 = .ok (.astore 7, 2) := by decide +kernel
theorem dL_setClip_32 : decode cL_setClip 32 = .ok (.iconst 2, 1) := by decide +kernel
theorem dL_setClip_33 : decode cL_setClip 33 = .ok (.ireturn, 1) := by decide +kernel
theorem dL_setClip_34 : decode cL_setClip 34 = .ok (.iconst 0, 1) := by decide +kernel
theorem dL_setClip_35 : decode cL_setClip 35 = .ok (.ireturn, 1) := by decide +kernel
set_option maxRecDepth 20000 in
theorem ggL_setMask_X7_setMask : GoodIn wsL_setMask wsX7_setMask := goodIn_ca (goodIn_ca (goodIn_r _ [7, 8, 9, 10, 11, 12, 13, 14, 6, 15, 16, 17, 18, 19, 20, 21, 22, 23, 24, 25, 26, 27, 28, 29, 30, 31, 32, 33, 34, 35, 36, 37, 38, 39, 40, 41, 42, 43, 44, 45, 46, 47] (by decide +kernel) (by decide +kernel)) (goodIn_sub (fun _ h => List.mem_cons_of_mem _ (List.mem_append_left _ (List.mem_append_right _ h))) (by decide +kernel))) (goodIn_sub (fun _ h => List.mem_cons_of_mem _ (List.mem_append_right _ h)) (by decide +kernel))
set_option maxRecDepth 20000 in
theorem gL_setMask_X7_setMask : GoodIn wsL_setMask (wsV RL 59 RX7 yX7_setMask wsX7_setMask) := goodIn_app (goodIn_of _ (by decide +kernel)) ggL_setMask_X7_setMask
theorem dL_setMask_0 : decode cL_setMask 0 = .ok (.aload_n 3, 1) := by decide +kernel
theorem dL_setMask_1 : decode cL_setMask 1 = .ok (.iconst 0, 1) := by decide +kernel
theorem dL_setMask_2 : decode cL_setMask 2 = .ok (.aload_n 0, 1) := by decide +kernel
theorem dL_setMask_3 : decode cL_setMask 3 = .ok (.iload_n 1, 1) := by decide +kernel
theorem dL_setMask_4 : decode cL_setMask 4 = .ok (.iload_n 2, 1) := by decide +kernel
theorem dL_setMask_5 : decode cL_setMask 5 = .ok (.invokevirtual 59, 3) := by decide +kernel
theorem dL_setMask_8 : decode cL_setMask 8 = .ok (.ifCond .eq 7, 3) := by decide +kernel
theorem dL_setMask_11 : decode cL_setMask 11 = .ok (.lconst 1, 1) := by decide +kernel
theorem dL_setMask_12 : decode cL_setMask 12 = .ok (.goto 4, 3) := by decide +kernel
theorem dL_setMask_15 : decode cL_setMask 15 = .ok (.lconst 0, 1) := by decide +kernel
theorem dL_setMask_16 : decode cL_setMask 16 = .ok (.lastore, 1) := by decide +kernel
theorem dL_setMask_17 : decode cL_setMask 17 = .ok (.goto 11, 3) := by decide +kernel
theorem dL_setMask_20 : decode cL_setMask 20 = .ok (.astore 4, 2) := by decide +kernel
theorem dL_setMask_22 : decode cL_setMask 22 = .ok (.iconst 1, 1) := by decide +kernel
theorem dL_setMask_23 : decode cL_setMask 23 = .ok (.ireturn, 1) := by decide +kernel
theorem dL_setMask_24 : decode cL_setMask 24 = .ok (.astore 4, 2) := by decide +kernel
theorem dL_setMask_26 : decode cL_setMask 26 = .ok (.iconst 2, 1) := by decide +kernel
theorem dL_setMask_27 : decode cL_setMask 27 = .ok (.ireturn, 1) := by decide +kernel
theorem dL_setMask_28 : decode cL_setMask 28 = .ok (.iconst 0, 1) := by decide +kernel
theorem dL_setMask_29 : decode cL_setMask 29 = .ok (.ireturn, 1) := by decide +kernel
set_option maxRecDepth 20000 in
theorem ggL_setGround_X7_setGround : GoodIn wsL_setGround wsX7_setGround := goodIn_ca (goodIn_r _ [6, 7, 8, 9, 5, 10, 11, 12, 13, 14, 15, 16, 17, 18, 19] (by decide +kernel) (by decide +kernel)) (goodIn_sub (fun _ h => List.mem_cons_of_mem _ (List.mem_append_right _ h)) (by decide +kernel))
set_option maxRecDepth 20000 in
theorem gL_setGround_X7_setGround : GoodIn wsL_setGround (wsV RL 63 RX7 yX7_setGround wsX7_setGround) := goodIn_app (goodIn_of _ (by decide +kernel)) ggL_setGround_X7_setGround
theorem dL_setGround_0 : decode cL_setGround 0 = .ok (.aload_n 2, 1) := by decide +kernel
theorem dL_setGround_1 : decode cL_setGround 1 = .ok (.iconst 0, 1) := by decide +kernel
theorem dL_setGround_2 : decode cL_setGround 2 = .ok (.aload_n 0, 1) := by decide +kernel
theorem dL_setGround_3 : decode cL_setGround 3 = .ok (.iload_n 1, 1) := by decide +kernel
theorem dL_setGround_4 : decode cL_setGround 4 = .ok (.invokevirtual 63, 3) := by decide +kernel
theorem dL_setGround_7 : decode cL_setGround 7 = .ok (.i2l, 1) := by decide +kernel
theorem dL_setGround_8 : decode cL_setGround 8 = .ok (.lastore, 1) := by decide +kernel
theorem dL_setGround_9 : decode cL_setGround 9 = .ok (.goto 6, 3) := by decide +kernel
theorem dL_setGround_12 : decode cL_setGround 12 = .ok (.astore_n 3, 1) := by decide +kernel
theorem dL_setGround_13 : decode cL_setGround 13 = .ok (.iconst 1, 1) := by decide +kernel
theorem dL_setGround_14 : decode cL_setGround 14 = .ok (.ireturn, 1) := by decide +kernel
theorem dL_setGround_15 : decode cL_setGround 15 = .ok (.iconst 0, 1) := by decide +kernel
theorem dL_setGround_16 : decode cL_setGround 16 = .ok (.ireturn, 1) := by decide +kernel
set_option maxRecDepth 20000 in
theorem ggL_value_X7_value : GoodIn wsL_value wsX7_value := goodIn_ca (goodIn_r _ [6, 7, 8, 9, 5, 10, 11, 12, 13, 14, 15, 16, 17, 18, 19, 20, 21, 22, 23, 24, 25, 26, 27, 28, 29, 30, 31, 32, 33, 34, 35, 36, 37, 38, 39, 40, 41, 42, 43, 44, 45, 46, 47, 48, 49, 50, 51, 52, 53, 54, 55, 56, 57, 58, 59, 60, 61, 62, 63, 64, 65, 66, 67, 68, 69, 70, 71, 72, 73, 74, 75, 76, 77, 78, 79, 80, 81, 82, 83, 84, 85, 86, 87, 88, 89, 90, 91, 92, 93, 94, 95, 96, 97, 98, 99, 100, 101, 102, 103, 104, 105, 106, 107, 108, 109, 110, 111, 112, 113, 114, 115, 116, 117, 118, 119, 120, 121, 122, 123, 124, 125, 126, 127, 128, 129, 130, 131, 132, 133, 134, 135, 136, 137, 138, 139, 140, 141, 142, 143, 144, 145, 146, 147, 148, 149, 150, 151, 152, 153, 154, 155, 156, 157, 158, 159, 160, 161, 162, 163, 164, 165, 166, 167, 168, 169, 170, 171, 172, 173, 174, 175, 176, 177, 178, 179, 180, 181, 182, 183, 184, 185, 186, 187, 188, 189, 190] (by decide +kernel) (by decide +kernel)) (goodIn_sub (fun _ h => List.mem_cons_of_mem _ (List.mem_append_right _ h)) (by decide +kernel))
set_option maxRecDepth 20000 in
theorem gL_value_X7_value : GoodIn wsL_value (wsV RL 66 RX7 yX7_value wsX7_value) := goodIn_app (goodIn_of _ (by decide +kernel)) ggL_value_X7_value
theorem dL_value_0 : decode cL_value 0 = .ok (.aload_n 3, 1) := by decide +kernel
theorem dL_value_1 : decode cL_value 1 = .ok (.iconst 0, 1) := by decide +kernel
theorem dL_value_2 : decode cL_value 2 = .ok (.aload_n 0, 1) := by decide +kernel
theorem dL_value_3 : decode cL_value 3 = .ok (.iload_n 1, 1) := by decide +kernel
theorem dL_value_4 : decode cL_value 4 = .ok (.iload_n 2, 1) := by decide +kernel
theorem dL_value_5 : decode cL_value 5 = .ok (.invokevirtual 66, 3) := by decide +kernel
theorem dL_value_8 : decode cL_value 8 = .ok (.i2l, 1) := by decide +kernel
theorem dL_value_9 : decode cL_value 9 = .ok (.lastore, 1) := by decide +kernel
theorem dL_value_10 : decode cL_value 10 = .ok (.goto 7, 3) := by decide +kernel
theorem dL_value_13 : decode cL_value 13 = .ok (.astore 4, 2) := by decide +kernel
theorem dL_value_15 : decode cL_value 15 = .ok (.iconst 1, 1) := by decide +kernel
theorem dL_value_16 : decode cL_value 16 = .ok (.ireturn, 1) := by decide +kernel
theorem dL_value_17 : decode cL_value 17 = .ok (.iconst 0, 1) := by decide +kernel
theorem dL_value_18 : decode cL_value 18 = .ok (.ireturn, 1) := by decide +kernel
set_option maxRecDepth 20000 in
theorem ggL_hit_X7_hit : GoodIn wsL_hit wsX7_hit := goodIn_ca (goodIn_r _ [6, 7, 8, 9, 10, 11, 12, 13, 14, 5, 15, 16, 17, 18, 19, 20, 21, 22, 23, 24, 25, 26, 27, 28, 29, 30, 31, 32, 33, 34, 35, 36, 37, 38, 39, 40, 41, 42, 43, 44, 45, 46, 47, 48, 49, 50, 51, 52, 53, 54, 55, 56, 57, 58, 59, 60, 61, 62, 63, 64, 65, 66, 67, 68, 69, 70, 71, 72, 73, 74, 75, 76, 77, 78, 79, 80, 81, 82, 83, 84, 85, 86, 87, 88, 89, 90, 91, 92, 93, 94, 95, 96, 97, 98, 99, 100, 101, 102, 103, 104, 105, 106, 107, 108, 109, 110, 111, 112, 113, 114, 115, 116, 117, 118, 119, 120, 121, 122, 123, 124, 125, 126, 127, 128, 129, 130, 131, 132, 133, 134, 135, 136, 137, 138, 139, 140, 141, 142, 143, 144, 145, 146, 147, 148, 149, 150, 151, 152, 153, 154, 155, 156, 157, 158, 159, 160, 161, 162, 163, 164, 165, 166, 167, 168, 169, 170, 171, 172, 173, 174, 175, 176] (by decide +kernel) (by decide +kernel)) (goodIn_sub (fun _ h => List.mem_cons_of_mem _ (List.mem_append_right _ h)) (by decide +kernel))
set_option maxRecDepth 20000 in
theorem gL_hit_X7_hit : GoodIn wsL_hit (wsV RL 69 RX7 yX7_hit wsX7_hit) := goodIn_app (goodIn_of _ (by decide +kernel)) ggL_hit_X7_hit
theorem dL_hit_0 : decode cL_hit 0 = .ok (.aload_n 3, 1) := by decide +kernel
theorem dL_hit_1 : decode cL_hit 1 = .ok (.iconst 0, 1) := by decide +kernel
theorem dL_hit_2 : decode cL_hit 2 = .ok (.aload_n 0, 1) := by decide +kernel
theorem dL_hit_3 : decode cL_hit 3 = .ok (.iload_n 1, 1) := by decide +kernel
theorem dL_hit_4 : decode cL_hit 4 = .ok (.iload_n 2, 1) := by decide +kernel
theorem dL_hit_5 : decode cL_hit 5 = .ok (.invokevirtual 69, 3) := by decide +kernel
theorem dL_hit_8 : decode cL_hit 8 = .ok (.i2l, 1) := by decide +kernel
theorem dL_hit_9 : decode cL_hit 9 = .ok (.lastore, 1) := by decide +kernel
theorem dL_hit_10 : decode cL_hit 10 = .ok (.goto 7, 3) := by decide +kernel
theorem dL_hit_13 : decode cL_hit 13 = .ok (.astore 4, 2) := by decide +kernel
theorem dL_hit_15 : decode cL_hit 15 = .ok (.iconst 1, 1) := by decide +kernel
theorem dL_hit_16 : decode cL_hit 16 = .ok (.ireturn, 1) := by decide +kernel
theorem dL_hit_17 : decode cL_hit 17 = .ok (.iconst 0, 1) := by decide +kernel
theorem dL_hit_18 : decode cL_hit 18 = .ok (.ireturn, 1) := by decide +kernel
set_option maxRecDepth 20000 in
theorem ggL_shows_X7_shows : GoodIn wsL_shows wsX7_shows := goodIn_ca (goodIn_r _ [6, 7, 8, 9, 10, 5, 11, 12, 13, 14, 15, 16, 17, 18, 19, 20, 21, 22, 23, 24, 25, 26, 27, 28, 29, 30, 31, 32, 33, 34, 35, 36, 37, 38, 39, 40, 41, 42, 43, 44, 45, 46, 47, 48, 49, 50, 51, 52, 53, 54, 55, 56, 57, 58, 59, 60, 61, 62, 63, 64, 65, 66, 67, 68, 69, 70, 71, 72, 73, 74, 75, 76, 77, 78, 79, 80, 81, 82, 83, 84, 85, 86, 87, 88, 89, 90, 91, 92, 93, 94, 95, 96, 97, 98, 99, 100, 101, 102, 103, 104, 105, 106, 107, 108, 109, 110, 111, 112, 113, 114, 115, 116, 117, 118, 119, 120, 121, 122, 123, 124, 125, 126, 127, 128, 129, 130, 131, 132, 133, 134, 135, 136, 137, 138, 139, 140, 141, 142, 143, 144, 145, 146, 147, 148, 149, 150, 151, 152, 153, 154, 155, 156, 157, 158, 159, 160, 161, 162, 163, 164, 165, 166, 167, 168, 169, 170, 171, 172, 173, 174, 175, 176, 177, 178, 179, 180, 181, 182] (by decide +kernel) (by decide +kernel)) (goodIn_sub (fun _ h => List.mem_cons_of_mem _ (List.mem_append_right _ h)) (by decide +kernel))
set_option maxRecDepth 20000 in
theorem gL_shows_X7_shows : GoodIn wsL_shows (wsV RL 72 RX7 yX7_shows wsX7_shows) := goodIn_app (goodIn_of _ (by decide +kernel)) ggL_shows_X7_shows
theorem dL_shows_0 : decode cL_shows 0 = .ok (.aload 4, 2) := by decide +kernel
theorem dL_shows_2 : decode cL_shows 2 = .ok (.iconst 0, 1) := by decide +kernel
theorem dL_shows_3 : decode cL_shows 3 = .ok (.aload_n 0, 1) := by decide +kernel
theorem dL_shows_4 : decode cL_shows 4 = .ok (.iload_n 1, 1) := by decide +kernel
theorem dL_shows_5 : decode cL_shows 5 = .ok (.iload_n 2, 1) := by decide +kernel
theorem dL_shows_6 : decode cL_shows 6 = .ok (.iload_n 3, 1) := by decide +kernel
theorem dL_shows_7 : decode cL_shows 7 = .ok (.invokevirtual 72, 3) := by decide +kernel
theorem dL_shows_10 : decode cL_shows 10 = .ok (.ifCond .eq 7, 3) := by decide +kernel
theorem dL_shows_13 : decode cL_shows 13 = .ok (.lconst 1, 1) := by decide +kernel
theorem dL_shows_14 : decode cL_shows 14 = .ok (.goto 4, 3) := by decide +kernel
theorem dL_shows_17 : decode cL_shows 17 = .ok (.lconst 0, 1) := by decide +kernel
theorem dL_shows_18 : decode cL_shows 18 = .ok (.lastore, 1) := by decide +kernel
theorem dL_shows_19 : decode cL_shows 19 = .ok (.goto 7, 3) := by decide +kernel
theorem dL_shows_22 : decode cL_shows 22 = .ok (.astore 5, 2) := by decide +kernel
theorem dL_shows_24 : decode cL_shows 24 = .ok (.iconst 1, 1) := by decide +kernel
theorem dL_shows_25 : decode cL_shows 25 = .ok (.ireturn, 1) := by decide +kernel
theorem dL_shows_26 : decode cL_shows 26 = .ok (.iconst 0, 1) := by decide +kernel
theorem dL_shows_27 : decode cL_shows 27 = .ok (.ireturn, 1) := by decide +kernel
set_option maxRecDepth 20000 in
theorem ggL_extent_X7_extent : GoodIn wsL_extent wsX7_extent := goodIn_ca (goodIn_r _ [6, 7, 8, 9, 10, 5, 11, 12, 13, 14, 15, 16, 17, 18, 19, 20, 21, 22, 23, 24, 25, 26, 27, 28, 29, 30, 31, 32, 33, 34, 35, 36, 37, 38, 39, 40, 41, 42, 43, 44, 45, 46, 47, 48, 49, 50, 51, 52, 53, 54, 55, 56, 57, 58, 59, 60, 61, 62, 63, 64, 65, 66, 67, 68, 69, 70, 71, 72, 73, 74, 75, 76, 77, 78, 79, 80, 81, 82, 83, 84, 85, 86, 87, 88, 89, 90, 91, 92, 93, 94, 95, 96, 97, 98, 99, 100, 101, 102, 103, 104, 105, 106, 107, 108, 109, 110, 111, 112, 113, 114, 115, 116, 117, 118, 119, 120, 121, 122, 123, 124, 125, 126, 127, 128, 129, 130, 131, 132, 133, 134, 135, 136, 137, 138, 139, 140, 141, 142, 143, 144, 145, 146, 147, 148, 149, 150, 151, 152, 153, 154, 155, 156, 157, 158, 159, 160, 161, 162, 163, 164, 165, 166, 167, 168, 169, 170, 171, 172, 173, 174, 175, 176, 177, 178, 179, 180, 181, 182, 183, 184, 185, 186, 187, 188, 189, 190, 191, 192] (by decide +kernel) (by decide +kernel)) (goodIn_sub (fun _ h => List.mem_cons_of_mem _ (List.mem_append_right _ h)) (by decide +kernel))
set_option maxRecDepth 20000 in
theorem gL_extent_X7_extent : GoodIn wsL_extent (wsV RL 76 RX7 yX7_extent wsX7_extent) := goodIn_app (goodIn_of _ (by decide +kernel)) ggL_extent_X7_extent
theorem dL_extent_0 : decode cL_extent 0 = .ok (.aload_n 3, 1) := by decide +kernel
theorem dL_extent_1 : decode cL_extent 1 = .ok (.iconst 0, 1) := by decide +kernel
theorem dL_extent_2 : decode cL_extent 2 = .ok (.aload_n 0, 1) := by decide +kernel
theorem dL_extent_3 : decode cL_extent 3 = .ok (.iload_n 1, 1) := by decide +kernel
theorem dL_extent_4 : decode cL_extent 4 = .ok (.iload_n 2, 1) := by decide +kernel
theorem dL_extent_5 : decode cL_extent 5 = .ok (.invokevirtual 76, 3) := by decide +kernel
theorem dL_extent_8 : decode cL_extent 8 = .ok (.i2l, 1) := by decide +kernel
theorem dL_extent_9 : decode cL_extent 9 = .ok (.lastore, 1) := by decide +kernel
theorem dL_extent_10 : decode cL_extent 10 = .ok (.goto 7, 3) := by decide +kernel
theorem dL_extent_13 : decode cL_extent 13 = .ok (.astore 4, 2) := by decide +kernel
theorem dL_extent_15 : decode cL_extent 15 = .ok (.iconst 1, 1) := by decide +kernel
theorem dL_extent_16 : decode cL_extent 16 = .ok (.ireturn, 1) := by decide +kernel
theorem dL_extent_17 : decode cL_extent 17 = .ok (.iconst 0, 1) := by decide +kernel
theorem dL_extent_18 : decode cL_extent 18 = .ok (.ireturn, 1) := by decide +kernel
set_option maxRecDepth 20000 in
theorem ggL_changed_X7_changed : GoodIn wsL_changed wsX7_changed := goodIn_ca (goodIn_r _ [6, 7, 8, 9, 10, 5, 11, 12, 13, 14, 15, 16, 17, 18, 19, 20, 21, 22, 23, 24, 25, 26, 27, 28, 29, 30, 31, 32, 33, 34, 35, 36, 37, 38, 39, 40, 41, 42, 43, 44, 45, 46, 47, 48, 49, 50, 51, 52, 53, 54, 55, 56, 57, 58, 59, 60, 61, 62, 63, 64, 65, 66, 67, 68, 69, 70, 71, 72, 73, 74, 75, 76, 77, 78, 79, 80, 81, 82, 83, 84, 85, 86, 87, 88, 89, 90, 91, 92, 93, 94, 95, 96, 97, 98, 99, 100, 101, 102, 103, 104, 105, 106, 107, 108, 109, 110, 111, 112, 113, 114, 115, 116, 117, 118, 119, 120, 121, 122, 123, 124, 125, 126, 127, 128, 129, 130, 131, 132, 133, 134, 135, 136, 137, 138, 139, 140, 141, 142, 143, 144, 145, 146, 147, 148, 149, 150, 151, 152, 153, 154, 155, 156, 157, 158, 159, 160, 161, 162, 163, 164, 165, 166, 167, 168, 169, 170, 171, 172, 173, 174, 175, 176, 177, 178, 179, 180, 181, 182, 183, 184, 185, 186, 187, 188, 189, 190, 191] (by decide +kernel) (by decide +kernel)) (goodIn_sub (fun _ h => List.mem_cons_of_mem _ (List.mem_append_right _ h)) (by decide +kernel))
set_option maxRecDepth 20000 in
theorem gL_changed_X7_changed : GoodIn wsL_changed (wsV RL 79 RX7 yX7_changed wsX7_changed) := goodIn_app (goodIn_of _ (by decide +kernel)) ggL_changed_X7_changed
theorem dL_changed_0 : decode cL_changed 0 = .ok (.aload_n 2, 1) := by decide +kernel
theorem dL_changed_1 : decode cL_changed 1 = .ok (.iconst 0, 1) := by decide +kernel
theorem dL_changed_2 : decode cL_changed 2 = .ok (.aload_n 0, 1) := by decide +kernel
theorem dL_changed_3 : decode cL_changed 3 = .ok (.iload_n 1, 1) := by decide +kernel
theorem dL_changed_4 : decode cL_changed 4 = .ok (.invokevirtual 79, 3) := by decide +kernel
theorem dL_changed_7 : decode cL_changed 7 = .ok (.i2l, 1) := by decide +kernel
theorem dL_changed_8 : decode cL_changed 8 = .ok (.lastore, 1) := by decide +kernel
theorem dL_changed_9 : decode cL_changed 9 = .ok (.goto 6, 3) := by decide +kernel
theorem dL_changed_12 : decode cL_changed 12 = .ok (.astore_n 3, 1) := by decide +kernel
theorem dL_changed_13 : decode cL_changed 13 = .ok (.iconst 1, 1) := by decide +kernel
theorem dL_changed_14 : decode cL_changed 14 = .ok (.ireturn, 1) := by decide +kernel
theorem dL_changed_15 : decode cL_changed 15 = .ok (.iconst 0, 1) := by decide +kernel
theorem dL_changed_16 : decode cL_changed 16 = .ok (.ireturn, 1) := by decide +kernel
set_option maxRecDepth 20000 in
theorem ggL_painted_X7_painted : GoodIn wsL_painted wsX7_painted := goodIn_ca (goodIn_r _ [6, 7, 8, 9, 5, 10, 11, 12, 13, 14, 15, 16, 17, 18, 19] (by decide +kernel) (by decide +kernel)) (goodIn_sub (fun _ h => List.mem_cons_of_mem _ (List.mem_append_right _ h)) (by decide +kernel))
set_option maxRecDepth 20000 in
theorem gL_painted_X7_painted : GoodIn wsL_painted (wsV RL 82 RX7 yX7_painted wsX7_painted) := goodIn_app (goodIn_of _ (by decide +kernel)) ggL_painted_X7_painted
theorem dL_painted_0 : decode cL_painted 0 = .ok (.aload_n 3, 1) := by decide +kernel
theorem dL_painted_1 : decode cL_painted 1 = .ok (.iconst 0, 1) := by decide +kernel
theorem dL_painted_2 : decode cL_painted 2 = .ok (.aload_n 0, 1) := by decide +kernel
theorem dL_painted_3 : decode cL_painted 3 = .ok (.iload_n 1, 1) := by decide +kernel
theorem dL_painted_4 : decode cL_painted 4 = .ok (.iload_n 2, 1) := by decide +kernel
theorem dL_painted_5 : decode cL_painted 5 = .ok (.invokevirtual 82, 3) := by decide +kernel
theorem dL_painted_8 : decode cL_painted 8 = .ok (.i2l, 1) := by decide +kernel
theorem dL_painted_9 : decode cL_painted 9 = .ok (.lastore, 1) := by decide +kernel
theorem dL_painted_10 : decode cL_painted 10 = .ok (.goto 7, 3) := by decide +kernel
theorem dL_painted_13 : decode cL_painted 13 = .ok (.astore 4, 2) := by decide +kernel
theorem dL_painted_15 : decode cL_painted 15 = .ok (.iconst 1, 1) := by decide +kernel
theorem dL_painted_16 : decode cL_painted 16 = .ok (.ireturn, 1) := by decide +kernel
theorem dL_painted_17 : decode cL_painted 17 = .ok (.iconst 0, 1) := by decide +kernel
theorem dL_painted_18 : decode cL_painted 18 = .ok (.ireturn, 1) := by decide +kernel

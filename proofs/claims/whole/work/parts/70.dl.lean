set_option maxRecDepth 20000 in
theorem ggL_addResource_X10_addResource : GoodIn wsL_addResource wsX10_addResource := goodIn_ca (goodIn_ca (goodIn_r _ [6, 7, 8, 9, 10, 11, 12, 13, 5, 14, 15, 16, 17, 18, 19, 20, 21, 22, 23, 24, 25, 26, 27, 28, 29, 30, 31, 32, 33, 34, 35, 36, 37, 38, 39, 40, 41, 42, 43, 44, 45, 46, 47, 48, 49, 50, 51, 52, 53, 54, 55, 56, 57, 58, 59, 60, 61, 62, 63, 64, 65, 66, 67, 68, 69, 70, 71, 72, 73, 74, 75, 76, 77, 78, 79, 80, 81, 82, 83, 84, 85, 86, 87, 88, 89, 90, 91, 92, 93, 94, 95, 96, 97, 98, 99, 100, 101, 102, 103, 104, 105, 106, 107, 108, 109, 110, 111] (by decide +kernel) (by decide +kernel)) (goodIn_sub (fun _ h => List.mem_cons_of_mem _ (List.mem_append_left _ (List.mem_append_right _ h))) (by decide +kernel))) (goodIn_sub (fun _ h => List.mem_cons_of_mem _ (List.mem_append_right _ h)) (by decide +kernel))
set_option maxRecDepth 20000 in
theorem gL_addResource_X10_addResource : GoodIn wsL_addResource (wsV RL 7 RX10 yX10_addResource wsX10_addResource) := goodIn_app (goodIn_of _ (by decide +kernel)) ggL_addResource_X10_addResource
theorem dL_addResource_0 : decode cL_addResource 0 = .ok (.aload 5, 2) := by decide +kernel
theorem dL_addResource_2 : decode cL_addResource 2 = .ok (.iconst 0, 1) := by decide +kernel
theorem dL_addResource_3 : decode cL_addResource 3 = .ok (.aload_n 0, 1) := by decide +kernel
theorem dL_addResource_4 : decode cL_addResource 4 = .ok (.iload_n 1, 1) := by decide +kernel
theorem dL_addResource_5 : decode cL_addResource 5 = .ok (.iload_n 2, 1) := by decide +kernel
theorem dL_addResource_6 : decode cL_addResource 6 = .ok (.iload_n 3, 1) := by decide +kernel
theorem dL_addResource_7 : decode cL_addResource 7 = .ok (.iload 4, 2) := by decide +kernel
theorem dL_addResource_9 : decode cL_addResource 9 = .ok (.invokevirtual 7, 3) := by decide +kernel
theorem dL_addResource_12 : decode cL_addResource 12 = .ok (.i2l, 1) := by decide +kernel
theorem dL_addResource_13 : decode cL_addResource 13 = .ok (.lastore, 1) := by decide +kernel
theorem dL_addResource_14 : decode cL_addResource 14 = .ok (.goto 11, 3) := by decide +kernel
theorem dL_addResource_17 : decode cL_addResource 17 = .ok (.astore 6, 2) := by decide +kernel
theorem dL_addResource_19 : decode cL_addResource 19 = .ok (.iconst 1, 1) := by decide +kernel
theorem dL_addResource_20 : decode cL_addResource 20 = .ok (.ireturn, 1) := by decide +kernel
theorem dL_addResource_21 : decode cL_addResource 21 = .ok (.astore 6, 2) := by decide +kernel
theorem dL_addResource_23 : decode cL_addResource 23 = .ok (.iconst 2, 1) := by decide +kernel
theorem dL_addResource_24 : decode cL_addResource 24 = .ok (.ireturn, 1) := by decide +kernel
theorem dL_addResource_25 : decode cL_addResource 25 = .ok (.iconst 0, 1) := by decide +kernel
theorem dL_addResource_26 : decode cL_addResource 26 = .ok (.ireturn, 1) := by decide +kernel
set_option maxRecDepth 20000 in
theorem ggL_setPrice_X10_setPrice : GoodIn wsL_setPrice wsX10_setPrice := goodIn_ca (goodIn_ca (goodIn_r _ [6, 7, 8, 9, 10, 11, 12, 13, 5, 14, 15, 16, 17, 18, 19, 20, 21, 22, 23, 24, 25, 26, 27, 28, 29, 30, 31, 32, 33, 34, 35, 36, 37, 38, 39, 40, 41, 42, 43, 44, 45, 46, 47, 48, 49, 50, 51, 52, 53, 54, 55, 56, 57, 58, 59, 60, 61, 62, 63, 64] (by decide +kernel) (by decide +kernel)) (goodIn_sub (fun _ h => List.mem_cons_of_mem _ (List.mem_append_left _ (List.mem_append_right _ h))) (by decide +kernel))) (goodIn_sub (fun _ h => List.mem_cons_of_mem _ (List.mem_append_right _ h)) (by decide +kernel))
set_option maxRecDepth 20000 in
theorem gL_setPrice_X10_setPrice : GoodIn wsL_setPrice (wsV RL 17 RX10 yX10_setPrice wsX10_setPrice) := goodIn_app (goodIn_of _ (by decide +kernel)) ggL_setPrice_X10_setPrice
theorem dL_setPrice_0 : decode cL_setPrice 0 = .ok (.aload_n 3, 1) := by decide +kernel
theorem dL_setPrice_1 : decode cL_setPrice 1 = .ok (.iconst 0, 1) := by decide +kernel
theorem dL_setPrice_2 : decode cL_setPrice 2 = .ok (.aload_n 0, 1) := by decide +kernel
theorem dL_setPrice_3 : decode cL_setPrice 3 = .ok (.iload_n 1, 1) := by decide +kernel
theorem dL_setPrice_4 : decode cL_setPrice 4 = .ok (.iload_n 2, 1) := by decide +kernel
theorem dL_setPrice_5 : decode cL_setPrice 5 = .ok (.invokevirtual 17, 3) := by decide +kernel
theorem dL_setPrice_8 : decode cL_setPrice 8 = .ok (.i2l, 1) := by decide +kernel
theorem dL_setPrice_9 : decode cL_setPrice 9 = .ok (.lastore, 1) := by decide +kernel
theorem dL_setPrice_10 : decode cL_setPrice 10 = .ok (.goto 11, 3) := by decide +kernel
theorem dL_setPrice_13 : decode cL_setPrice 13 = .ok (.astore 4, 2) := by decide +kernel
theorem dL_setPrice_15 : decode cL_setPrice 15 = .ok (.iconst 1, 1) := by decide +kernel
theorem dL_setPrice_16 : decode cL_setPrice 16 = .ok (.ireturn, 1) := by decide +kernel
theorem dL_setPrice_17 : decode cL_setPrice 17 = .ok (.astore 4, 2) := by decide +kernel
theorem dL_setPrice_19 : decode cL_setPrice 19 = .ok (.iconst 2, 1) := by decide +kernel
theorem dL_setPrice_20 : decode cL_setPrice 20 = .ok (.ireturn, 1) := by decide +kernel
theorem dL_setPrice_21 : decode cL_setPrice 21 = .ok (.iconst 0, 1) := by decide +kernel
theorem dL_setPrice_22 : decode cL_setPrice 22 = .ok (.ireturn, 1) := by decide +kernel
set_option maxRecDepth 20000 in
theorem ggL_addCrew_X10_addCrew : GoodIn wsL_addCrew wsX10_addCrew := goodIn_ca (goodIn_r _ [6, 7, 8, 9, 10, 11, 12, 13, 14, 15, 16, 17, 18, 19, 5, 20, 21, 22, 23, 24, 25, 26, 27, 28, 29, 30, 31, 32, 33, 34, 35, 36, 37, 38, 39, 40, 41, 42, 43, 44, 45, 46, 47, 48, 49, 50, 51, 52, 53, 54, 55, 56, 57, 58, 59, 60, 61, 62, 63, 64, 65, 66, 67, 68, 69, 70, 71, 72, 73, 74, 75, 76, 77, 78, 79, 80, 81, 82, 83, 84, 85, 86, 87, 88, 89, 90, 91, 92, 93, 94, 95, 96, 97, 98, 99, 100, 101] (by decide +kernel) (by decide +kernel)) (goodIn_sub (fun _ h => List.mem_cons_of_mem _ (List.mem_append_right _ h)) (by decide +kernel))
set_option maxRecDepth 20000 in
theorem gL_addCrew_X10_addCrew : GoodIn wsL_addCrew (wsV RL 23 RX10 yX10_addCrew wsX10_addCrew) := goodIn_app (goodIn_of _ (by decide +kernel)) ggL_addCrew_X10_addCrew
theorem dL_addCrew_0 : decode cL_addCrew 0 = .ok (.aload_n 1, 1) := by decide +kernel
theorem dL_addCrew_1 : decode cL_addCrew 1 = .ok (.iconst 0, 1) := by decide +kernel
theorem dL_addCrew_2 : decode cL_addCrew 2 = .ok (.aload_n 0, 1) := by decide +kernel
theorem dL_addCrew_3 : decode cL_addCrew 3 = .ok (.invokevirtual 23, 3) := by decide +kernel
theorem dL_addCrew_6 : decode cL_addCrew 6 = .ok (.i2l, 1) := by decide +kernel
theorem dL_addCrew_7 : decode cL_addCrew 7 = .ok (.lastore, 1) := by decide +kernel
theorem dL_addCrew_8 : decode cL_addCrew 8 = .ok (.goto 6, 3) := by decide +kernel
theorem dL_addCrew_11 : decode cL_addCrew 11 = .ok (.astore_n 2, 1) := by decide +kernel
theorem dL_addCrew_12 : decode cL_addCrew 12 = .ok (.iconst 1, 1) := by decide +kernel
theorem dL_addCrew_13 : decode cL_addCrew 13 = .ok (.ireturn, 1) := by decide +kernel
theorem dL_addCrew_14 : decode cL_addCrew 14 = .ok (.iconst 0, 1) := by decide +kernel
theorem dL_addCrew_15 : decode cL_addCrew 15 = .ok (.ireturn, 1) := by decide +kernel
set_option maxRecDepth 20000 in
theorem ggL_addMember_X10_addMember : GoodIn wsL_addMember wsX10_addMember := goodIn_ca (goodIn_ca (goodIn_ca (goodIn_ca (goodIn_ca (goodIn_r _ [6, 7, 8, 9, 10, 11, 12, 13, 14, 15, 16, 17, 18, 19, 20, 5, 21, 22, 23, 24, 25, 26, 27, 28, 29, 30, 31, 32, 33, 34, 35, 36, 37, 38, 39, 40, 41, 42, 43, 44, 45, 46, 47, 48, 49, 50, 51, 52, 53, 54, 55, 56, 57, 58, 59, 60, 61, 62, 63, 64, 65, 66, 67, 68, 69, 70, 71, 72, 73, 74, 75, 76, 77, 78, 79, 80, 81, 82, 83, 84, 85, 86, 87, 88, 89, 90, 91, 92, 93] (by decide +kernel) (by decide +kernel)) (goodIn_sub (fun _ h => List.mem_cons_of_mem _ (List.mem_append_left _ (List.mem_append_left _ (List.mem_append_left _ (List.mem_append_right _ h))))) (by decide +kernel))) (goodIn_sub (fun _ h => List.mem_cons_of_mem _ (List.mem_append_left _ (List.mem_append_left _ (List.mem_append_right _ h)))) (by decide +kernel))) (goodIn_sub (fun _ h => List.mem_cons_of_mem _ (List.mem_append_left _ (List.mem_append_right _ h))) (by decide +kernel))) (goodIn_sub (fun _ h => List.mem_cons_of_mem _ (List.mem_append_right _ h)) (by decide +kernel))) (goodIn_sub (fun _ h => List.mem_cons_of_mem _ (List.mem_append_left _ (List.mem_append_left _ (List.mem_append_left _ (List.mem_append_left _ (List.mem_append_right _ h)))))) (by decide +kernel))
set_option maxRecDepth 20000 in
theorem gL_addMember_X10_addMember : GoodIn wsL_addMember (wsV RL 27 RX10 yX10_addMember wsX10_addMember) := goodIn_app (goodIn_of _ (by decide +kernel)) ggL_addMember_X10_addMember
theorem dL_addMember_0 : decode cL_addMember 0 = .ok (.aload 4, 2) := by decide +kernel
theorem dL_addMember_2 : decode cL_addMember 2 = .ok (.iconst 0, 1) := by decide +kernel
theorem dL_addMember_3 : decode cL_addMember 3 = .ok (.aload_n 0, 1) := by decide +kernel
theorem dL_addMember_4 : decode cL_addMember 4 = .ok (.iload_n 1, 1) := by decide +kernel
theorem dL_addMember_5 : decode cL_addMember 5 = .ok (.iload_n 2, 1) := by decide +kernel
theorem dL_addMember_6 : decode cL_addMember 6 = .ok (.iload_n 3, 1) := by decide +kernel
theorem dL_addMember_7 : decode cL_addMember 7 = .ok (.invokevirtual 27, 3) := by decide +kernel
theorem dL_addMember_10 : decode cL_addMember 10 = .ok (.i2l, 1) := by decide +kernel
theorem dL_addMember_11 : decode cL_addMember 11 = .ok (.lastore, 1) := by decide +kernel
theorem dL_addMember_12 : decode cL_addMember 12 = .ok (.goto 19, 3) := by decide +kernel
theorem dL_addMember_15 : decode cL_addMember 15 = .ok (.astore 5, 2) := by decide +kernel
theorem dL_addMember_17 : decode cL_addMember 17 = .ok (.iconst 1, 1) := by decide +kernel
theorem dL_addMember_18 : decode cL_addMember 18 = .ok (.ireturn, 1) := by decide +kernel
theorem dL_addMember_19 : decode cL_addMember 19 = .ok (.astore 5, 2) := by decide +kernel
theorem dL_addMember_21 : decode cL_addMember 21 = .ok (.iconst 2, 1) := by decide +kernel
theorem dL_addMember_22 : decode cL_addMember 22 = .ok (.ireturn, 1) := by decide +kernel
theorem dL_addMember_23 : decode cL_addMember 23 = .ok (.astore 5, 2) := by decide +kernel
theorem dL_addMember_25 : decode cL_addMember 25 = .ok (.iconst 3, 1) := by decide +kernel
theorem dL_addMember_26 : decode cL_addMember 26 = .ok (.ireturn, 1) := by decide +kernel
theorem dL_addMember_27 : decode cL_addMember 27 = .ok (.astore 5, 2) := by decide +kernel
theorem dL_addMember_29 : decode cL_addMember 29 = .ok (.iconst 4, 1) := by decide +kernel
theorem dL_addMember_30 : decode cL_addMember 30 = .ok (.ireturn, 1) := by decide +kernel
theorem dL_addMember_31 : decode cL_addMember 31 = .ok (.iconst 0, 1) := by decide +kernel
theorem dL_addMember_32 : decode cL_addMember 32 = .ok (.ireturn, 1) := by decide +kernel
set_option maxRecDepth 20000 in
theorem ggL_addItem_X10_addItem : GoodIn wsL_addItem wsX10_addItem := goodIn_ca (goodIn_ca (goodIn_r _ [6, 7, 8, 9, 10, 11, 12, 13, 5, 14, 15, 16, 17, 18, 19, 20, 21, 22, 23, 24, 25, 26, 27, 28, 29, 30, 31, 32, 33, 34, 35, 36, 37, 38, 39, 40, 41, 42, 43, 44, 45, 46, 47, 48, 49, 50, 51, 52, 53, 54, 55, 56, 57, 58, 59, 60, 61, 62, 63, 64, 65, 66, 67, 68, 69, 70, 71, 72, 73, 74, 75, 76, 77, 78, 79, 80, 81, 82, 83, 84, 85, 86, 87, 88, 89, 90, 91, 92, 93, 94, 95, 96, 97, 98, 99, 100, 101, 102, 103, 104, 105, 106, 107, 108, 109, 110, 111, 112, 113, 114, 115, 116, 117, 118, 119] (by decide +kernel) (by decide +kernel)) (goodIn_sub (fun _ h => List.mem_cons_of_mem _ (List.mem_append_left _ (List.mem_append_right _ h))) (by decide +kernel))) (goodIn_sub (fun _ h => List.mem_cons_of_mem _ (List.mem_append_right _ h)) (by decide +kernel))
set_option maxRecDepth 20000 in
theorem gL_addItem_X10_addItem : GoodIn wsL_addItem (wsV RL 33 RX10 yX10_addItem wsX10_addItem) := goodIn_app (goodIn_of _ (by decide +kernel)) ggL_addItem_X10_addItem
theorem dL_addItem_0 : decode cL_addItem 0 = .ok (.aload_n 2, 1) := by decide +kernel
theorem dL_addItem_1 : decode cL_addItem 1 = .ok (.iconst 0, 1) := by decide +kernel
theorem dL_addItem_2 : decode cL_addItem 2 = .ok (.aload_n 0, 1) := by decide +kernel
theorem dL_addItem_3 : decode cL_addItem 3 = .ok (.iload_n 1, 1) := by decide +kernel
theorem dL_addItem_4 : decode cL_addItem 4 = .ok (.invokevirtual 33, 3) := by decide +kernel
theorem dL_addItem_7 : decode cL_addItem 7 = .ok (.i2l, 1) := by decide +kernel
theorem dL_addItem_8 : decode cL_addItem 8 = .ok (.lastore, 1) := by decide +kernel
theorem dL_addItem_9 : decode cL_addItem 9 = .ok (.goto 9, 3) := by decide +kernel
theorem dL_addItem_12 : decode cL_addItem 12 = .ok (.astore_n 3, 1) := by decide +kernel
theorem dL_addItem_13 : decode cL_addItem 13 = .ok (.iconst 1, 1) := by decide +kernel
theorem dL_addItem_14 : decode cL_addItem 14 = .ok (.ireturn, 1) := by decide +kernel
theorem dL_addItem_15 : decode cL_addItem 15 = .ok (.astore_n 3, 1) := by decide +kernel
theorem dL_addItem_16 : decode cL_addItem 16 = .ok (.iconst 2, 1) := by decide +kernel
theorem dL_addItem_17 : decode cL_addItem 17 = .ok (.ireturn, 1) := by decide +kernel
theorem dL_addItem_18 : decode cL_addItem 18 = .ok (.iconst 0, 1) := by decide +kernel
theorem dL_addItem_19 : decode cL_addItem 19 = .ok (.ireturn, 1) := by decide +kernel
set_option maxRecDepth 20000 in
theorem ggL_addPart_X10_addPart : GoodIn wsL_addPart wsX10_addPart := goodIn_ca (goodIn_ca (goodIn_ca (goodIn_ca (goodIn_ca (goodIn_r _ [6, 7, 8, 9, 10, 11, 12, 13, 14, 15, 16, 17, 18, 19, 5, 20, 21, 22, 23, 24, 25, 26, 27, 28, 29, 30, 31, 32, 33, 34, 35, 36, 37, 38, 39, 40, 41, 42, 43, 44, 45, 46, 47, 48, 49, 50, 51, 52, 53, 54, 55, 56, 57, 58, 59, 60, 61, 62, 63, 64, 65, 66, 67, 68, 69, 70, 71, 72, 73, 74, 75, 76, 77, 78, 79, 80, 81, 82, 83, 84, 85, 86, 87, 88, 89, 90, 91, 92, 93, 94, 95, 96, 97, 98, 99, 100, 101, 102, 103, 104, 105, 106, 107, 108, 109, 110, 111, 112, 113, 114, 115, 116, 117, 118, 119, 120, 121, 122, 123, 124, 125, 126, 127, 128, 129, 130, 131, 132, 133, 134, 135, 136, 137, 138, 139, 140, 141, 142, 143, 144, 145, 146, 147, 148, 149, 150, 151, 152, 153, 154, 155, 156, 157, 158, 159, 160, 161, 162, 163, 164, 165, 166, 167, 168, 169, 170, 171, 172, 173, 174, 175, 176, 177, 178, 179, 180, 181, 182, 183, 184, 185, 186, 187, 188, 189, 190, 191, 192, 193, 194, 195, 196, 197, 198, 199, 200, 201, 202, 203, 204, 205, 206, 207, 208, 209, 210, 211, 212, 213, 214, 215, 216, 217, 218] (by decide +kernel) (by decide +kernel)) (goodIn_sub (fun _ h => List.mem_cons_of_mem _ (List.mem_append_left _ (List.mem_append_left _ (List.mem_append_left _ (List.mem_append_right _ h))))) (by decide +kernel))) (goodIn_sub (fun _ h => List.mem_cons_of_mem _ (List.mem_append_left _ (List.mem_append_left _ (List.mem_append_left _ (List.mem_append_left _ (List.mem_append_right _ h)))))) (by decide +kernel))) (goodIn_sub (fun _ h => List.mem_cons_of_mem _ (List.mem_append_left _ (List.mem_append_left _ (List.mem_append_right _ h)))) (by decide +kernel))) (goodIn_sub (fun _ h => List.mem_cons_of_mem _ (List.mem_append_left _ (List.mem_append_right _ h))) (by decide +kernel))) (goodIn_sub (fun _ h => List.mem_cons_of_mem _ (List.mem_append_right _ h)) (by decide +kernel))
set_option maxRecDepth 20000 in
theorem gL_addPart_X10_addPart : GoodIn wsL_addPart (wsV RL 37 RX10 yX10_addPart wsX10_addPart) := goodIn_app (goodIn_of _ (by decide +kernel)) ggL_addPart_X10_addPart
theorem dL_addPart_0 : decode cL_addPart 0 = .ok (.aload 4, 2) := by decide +kernel
theorem dL_addPart_2 : decode cL_addPart 2 = .ok (.iconst 0, 1) := by decide +kernel
theorem dL_addPart_3 : decode cL_addPart 3 = .ok (.aload_n 0, 1) := by decide +kernel
theorem dL_addPart_4 : decode cL_addPart 4 = .ok (.iload_n 1, 1) := by decide +kernel
theorem dL_addPart_5 : decode cL_addPart 5 = .ok (.iload_n 2, 1) := by decide +kernel
theorem dL_addPart_6 : decode cL_addPart 6 = .ok (.iload_n 3, 1) := by decide +kernel
theorem dL_addPart_7 : decode cL_addPart 7 = .ok (.invokevirtual 37, 3) := by decide +kernel
theorem dL_addPart_10 : decode cL_addPart 10 = .ok (.i2l, 1) := by decide +kernel
theorem dL_addPart_11 : decode cL_addPart 11 = .ok (.lastore, 1) := by decide +kernel
theorem dL_addPart_12 : decode cL_addPart 12 = .ok (.goto 19, 3) := by decide +kernel
theorem dL_addPart_15 : decode cL_addPart 15 = .ok (.astore 5, 2) := by decide +kernel
theorem dL_addPart_17 : decode cL_addPart 17 = .ok (.iconst 1, 1) := by decide +kernel
theorem dL_addPart_18 : decode cL_addPart 18 = .ok (.ireturn, 1) := by decide +kernel
theorem dL_addPart_19 : decode cL_addPart 19 = .ok (.astore 5, 2) := by decide +kernel
theorem dL_addPart_21 : decode cL_addPart 21 = .ok (.iconst 2, 1) := by decide +kernel
theorem dL_addPart_22 : decode cL_addPart 22 = .ok (.ireturn, 1) := by decide +kernel
theorem dL_addPart_23 : decode cL_addPart 23 = .ok (.astore 5, 2) := by decide +kernel
theorem dL_addPart_25 : decode cL_addPart 25 = .ok (.iconst 3, 1) := by decide +kernel
theorem dL_addPart_26 : decode cL_addPart 26 = .ok (.ireturn, 1) := by decide +kernel
theorem dL_addPart_27 : decode cL_addPart 27 = .ok (.astore 5, 2) := by decide +kernel
theorem dL_addPart_29 : decode cL_addPart 29 = .ok (.iconst 4, 1) := by decide +kernel
theorem dL_addPart_30 : decode cL_addPart 30 = .ok (.ireturn, 1) := by decide +kernel
theorem dL_addPart_31 : decode cL_addPart 31 = .ok (.iconst 0, 1) := by decide +kernel
theorem dL_addPart_32 : decode cL_addPart 32 = .ok (.ireturn, 1) := by decide +kernel
set_option maxRecDepth 20000 in
theorem ggL_addUse_X10_addUse : GoodIn wsL_addUse wsX10_addUse := goodIn_ca (goodIn_ca (goodIn_ca (goodIn_r _ [6, 7, 8, 9, 10, 11, 12, 5, 13, 14, 15, 16, 17, 18, 19, 20, 21, 22, 23, 24, 25, 26, 27, 28, 29, 30, 31, 32, 33, 34, 35, 36, 37, 38, 39, 40, 41, 42, 43, 44, 45, 46, 47, 48, 49, 50, 51, 52, 53, 54, 55, 56, 57, 58, 59, 60, 61, 62, 63, 64, 65, 66, 67, 68, 69, 70, 71, 72, 73, 74, 75, 76, 77, 78, 79, 80, 81, 82, 83, 84, 85, 86, 87, 88, 89, 90, 91, 92, 93, 94, 95, 96, 97, 98, 99, 100, 101, 102, 103, 104, 105, 106, 107, 108, 109, 110, 111, 112, 113, 114, 115, 116, 117, 118, 119, 120, 121, 122, 123, 124, 125, 126, 127, 128, 129, 130, 131, 132, 133, 134, 135, 136, 137, 138, 139, 140, 141, 142, 143, 144] (by decide +kernel) (by decide +kernel)) (goodIn_sub (fun _ h => List.mem_cons_of_mem _ (List.mem_append_left _ (List.mem_append_left _ (List.mem_append_right _ h)))) (by decide +kernel))) (goodIn_sub (fun _ h => List.mem_cons_of_mem _ (List.mem_append_left _ (List.mem_append_right _ h))) (by decide +kernel))) (goodIn_sub (fun _ h => List.mem_cons_of_mem _ (List.mem_append_right _ h)) (by decide +kernel))
set_option maxRecDepth 20000 in
theorem gL_addUse_X10_addUse : GoodIn wsL_addUse (wsV RL 40 RX10 yX10_addUse wsX10_addUse) := goodIn_app (goodIn_of _ (by decide +kernel)) ggL_addUse_X10_addUse
theorem dL_addUse_0 : decode cL_addUse 0 = .ok (.aload 4, 2) := by decide +kernel
theorem dL_addUse_2 : decode cL_addUse 2 = .ok (.iconst 0, 1) := by decide +kernel
theorem dL_addUse_3 : decode cL_addUse 3 = .ok (.aload_n 0, 1) := by decide +kernel
theorem dL_addUse_4 : decode cL_addUse 4 = .ok (.iload_n 1, 1) := by decide +kernel
theorem dL_addUse_5 : decode cL_addUse 5 = .ok (.iload_n 2, 1) := by decide +kernel
theorem dL_addUse_6 : decode cL_addUse 6 = .ok (.iload_n 3, 1) := by decide +kernel
theorem dL_addUse_7 : decode cL_addUse 7 = .ok (.invokevirtual 40, 3) := by decide +kernel
theorem dL_addUse_10 : decode cL_addUse 10 = .ok (.i2l, 1) := by decide +kernel
theorem dL_addUse_11 : decode cL_addUse 11 = .ok (.lastore, 1) := by decide +kernel
theorem dL_addUse_12 : decode cL_addUse 12 = .ok (.goto 15, 3) := by decide +kernel
theorem dL_addUse_15 : decode cL_addUse 15 = .ok (.astore 5, 2) := by decide +kernel
theorem dL_addUse_17 : decode cL_addUse 17 = .ok (.iconst 1, 1) := by decide +kernel
theorem dL_addUse_18 : decode cL_addUse 18 = .ok (.ireturn, 1) := by decide +kernel
theorem dL_addUse_19 : decode cL_addUse 19 = .ok (.astore 5, 2) := by decide +kernel
theorem dL_addUse_21 : decode cL_addUse 21 = .ok (.iconst 2, 1) := by decide +kernel
theorem dL_addUse_22 : decode cL_addUse 22 = .ok (.ireturn, 1) := by decide +kernel
theorem dL_addUse_23 : decode cL_addUse 23 = .ok (.astore 5, 2) := by decide +kernel
theorem dL_addUse_25 : decode cL_addUse 25 = .ok (.iconst 3, 1) := by decide +kernel
theorem dL_addUse_26 : decode cL_addUse 26 = .ok (.ireturn, 1) := by decide +kernel
theorem dL_addUse_27 : decode cL_addUse 27 = .ok (.iconst 0, 1) := by decide +kernel
theorem dL_addUse_28 : decode cL_addUse 28 = .ok (.ireturn, 1) := by decide +kernel
set_option maxRecDepth 20000 in
theorem ggL_addWork_X10_addWork : GoodIn wsL_addWork wsX10_addWork := goodIn_ca (goodIn_ca (goodIn_ca (goodIn_r _ [6, 7, 8, 9, 10, 11, 12, 5, 13, 14, 15, 16, 17, 18, 19, 20, 21, 22, 23, 24, 25, 26, 27, 28, 29, 30, 31, 32, 33, 34, 35, 36, 37, 38, 39, 40, 41, 42, 43, 44, 45, 46, 47, 48, 49, 50, 51, 52, 53, 54, 55, 56, 57, 58, 59, 60, 61, 62, 63, 64, 65, 66, 67, 68, 69, 70, 71, 72, 73, 74, 75, 76, 77, 78, 79, 80, 81, 82, 83, 84, 85, 86, 87, 88, 89, 90, 91, 92, 93, 94, 95, 96, 97, 98, 99, 100, 101, 102, 103, 104, 105, 106, 107, 108, 109, 110, 111, 112, 113, 114, 115, 116, 117, 118, 119, 120, 121, 122, 123, 124, 125, 126, 127, 128, 129, 130, 131, 132, 133, 134, 135, 136, 137, 138, 139, 140, 141, 142, 143, 144] (by decide +kernel) (by decide +kernel)) (goodIn_sub (fun _ h => List.mem_cons_of_mem _ (List.mem_append_left _ (List.mem_append_left _ (List.mem_append_right _ h)))) (by decide +kernel))) (goodIn_sub (fun _ h => List.mem_cons_of_mem _ (List.mem_append_left _ (List.mem_append_right _ h))) (by decide +kernel))) (goodIn_sub (fun _ h => List.mem_cons_of_mem _ (List.mem_append_right _ h)) (by decide +kernel))
set_option maxRecDepth 20000 in
theorem gL_addWork_X10_addWork : GoodIn wsL_addWork (wsV RL 43 RX10 yX10_addWork wsX10_addWork) := goodIn_app (goodIn_of _ (by decide +kernel)) ggL_addWork_X10_addWork
theorem dL_addWork_0 : decode cL_addWork 0 = .ok (.aload 4, 2) := by decide +kernel
theorem dL_addWork_2 : decode cL_addWork 2 = .ok (.iconst 0, 1) := by decide +kernel
theorem dL_addWork_3 : decode cL_addWork 3 = .ok (.aload_n 0, 1) := by decide +kernel
theorem dL_addWork_4 : decode cL_addWork 4 = .ok (.iload_n 1, 1) := by decide +kernel
theorem dL_addWork_5 : decode cL_addWork 5 = .ok (.iload_n 2, 1) := by decide +kernel
theorem dL_addWork_6 : decode cL_addWork 6 = .ok (.iload_n 3, 1) := by decide +kernel
theorem dL_addWork_7 : decode cL_addWork 7 = .ok (.invokevirtual 43, 3) := by decide +kernel
theorem dL_addWork_10 : decode cL_addWork 10 = .ok (.i2l, 1) := by decide +kernel
theorem dL_addWork_11 : decode cL_addWork 11 = .ok (.lastore, 1) := by decide +kernel
theorem dL_addWork_12 : decode cL_addWork 12 = .ok (.goto 15, 3) := by decide +kernel
theorem dL_addWork_15 : decode cL_addWork 15 = .ok (.astore 5, 2) := by decide +kernel
theorem dL_addWork_17 : decode cL_addWork 17 = .ok (.iconst 1, 1) := by decide +kernel
theorem dL_addWork_18 : decode cL_addWork 18 = .ok (.ireturn, 1) := by decide +kernel
theorem dL_addWork_19 : decode cL_addWork 19 = .ok (.astore 5, 2) := by decide +kernel
theorem dL_addWork_21 : decode cL_addWork 21 = .ok (.iconst 2, 1) := by decide +kernel
theorem dL_addWork_22 : decode cL_addWork 22 = .ok (.ireturn, 1) := by decide +kernel
theorem dL_addWork_23 : decode cL_addWork 23 = .ok (.astore 5, 2) := by decide +kernel
theorem dL_addWork_25 : decode cL_addWork 25 = .ok (.iconst 3, 1) := by decide +kernel
theorem dL_addWork_26 : decode cL_addWork 26 = .ok (.ireturn, 1) := by decide +kernel
theorem dL_addWork_27 : decode cL_addWork 27 = .ok (.iconst 0, 1) := by decide +kernel
theorem dL_addWork_28 : decode cL_addWork 28 = .ok (.ireturn, 1) := by decide +kernel
set_option maxRecDepth 20000 in
theorem ggL_dropLast_X10_dropLast : GoodIn wsL_dropLast wsX10_dropLast := goodIn_ca (goodIn_ca (goodIn_r _ [6, 7, 8, 9, 10, 11, 12, 13, 14, 15, 5, 16, 17, 18, 19, 20, 21, 22, 23, 24, 25, 26, 27, 28, 29, 30, 31, 32, 33, 34, 35, 36, 37, 38, 39, 40, 41, 42, 43, 44, 45, 46, 47, 48, 49, 50, 51, 52, 53, 54, 55, 56, 57, 58, 59, 60, 61, 62, 63, 64, 65, 66, 67, 68, 69, 70, 71, 72, 73, 74, 75, 76, 77, 78, 79, 80, 81, 82, 83, 84, 85] (by decide +kernel) (by decide +kernel)) (goodIn_sub (fun _ h => List.mem_cons_of_mem _ (List.mem_append_left _ (List.mem_append_right _ h))) (by decide +kernel))) (goodIn_sub (fun _ h => List.mem_cons_of_mem _ (List.mem_append_right _ h)) (by decide +kernel))
set_option maxRecDepth 20000 in
theorem gL_dropLast_X10_dropLast : GoodIn wsL_dropLast (wsV RL 46 RX10 yX10_dropLast wsX10_dropLast) := goodIn_app (goodIn_of _ (by decide +kernel)) ggL_dropLast_X10_dropLast
theorem dL_dropLast_0 : decode cL_dropLast 0 = .ok (.aload_n 2, 1) := by decide +kernel
theorem dL_dropLast_1 : decode cL_dropLast 1 = .ok (.iconst 0, 1) := by decide +kernel
theorem dL_dropLast_2 : decode cL_dropLast 2 = .ok (.aload_n 0, 1) := by decide +kernel
theorem dL_dropLast_3 : decode cL_dropLast 3 = .ok (.iload_n 1, 1) := by decide +kernel
theorem dL_dropLast_4 : decode cL_dropLast 4 = .ok (.invokevirtual 46, 3) := by decide +kernel
theorem dL_dropLast_7 : decode cL_dropLast 7 = .ok (.i2l, 1) := by decide +kernel
theorem dL_dropLast_8 : decode cL_dropLast 8 = .ok (.lastore, 1) := by decide +kernel
theorem dL_dropLast_9 : decode cL_dropLast 9 = .ok (.goto 9, 3) := by decide +kernel
theorem dL_dropLast_12 : decode cL_dropLast 12 = .ok (.astore_n 3, 1) := by decide +kernel
theorem dL_dropLast_13 : decode cL_dropLast 13 = .ok (.iconst 1, 1) := by decide +kernel
theorem dL_dropLast_14 : decode cL_dropLast 14 = .ok (.ireturn, 1) := by decide +kernel
theorem dL_dropLast_15 : decode cL_dropLast 15 = .ok (.astore_n 3, 1) := by decide +kernel
theorem dL_dropLast_16 : decode cL_dropLast 16 = .ok (.iconst 2, 1) := by decide +kernel
theorem dL_dropLast_17 : decode cL_dropLast 17 = .ok (.ireturn, 1) := by decide +kernel
theorem dL_dropLast_18 : decode cL_dropLast 18 = .ok (.iconst 0, 1) := by decide +kernel
theorem dL_dropLast_19 : decode cL_dropLast 19 = .ok (.ireturn, 1) := by decide +kernel
set_option maxRecDepth 20000 in
theorem ggL_depthOf_X10_depthOf : GoodIn wsL_depthOf wsX10_depthOf := goodIn_ca (goodIn_ca (goodIn_r _ [6, 7, 8, 9, 10, 11, 5, 12, 13, 14, 15, 16, 17, 18, 19, 20, 21, 22, 23, 24, 25, 26, 27, 28, 29, 30, 31, 32, 33, 34, 35, 36, 37, 38, 39, 40, 41, 42, 43, 44, 45, 46, 47, 48, 49, 50, 51, 52, 53, 54, 55, 56, 57, 58, 59, 60, 61, 62, 63, 64, 65, 66, 67, 68, 69, 70, 71, 72, 73, 74, 75, 76, 77, 78, 79, 80, 81, 82, 83, 84, 85, 86, 87, 88, 89, 90, 91, 92, 93, 94, 95, 96, 97, 98, 99, 100, 101, 102, 103, 104, 105, 106, 107, 108, 109, 110, 111, 112, 113, 114, 115, 116, 117, 118] (by decide +kernel) (by decide +kernel)) (goodIn_sub (fun _ h => List.mem_cons_of_mem _ (List.mem_append_left _ (List.mem_append_right _ h))) (by decide +kernel))) (goodIn_sub (fun _ h => List.mem_cons_of_mem _ (List.mem_append_right _ h)) (by decide +kernel))
set_option maxRecDepth 20000 in
theorem gL_depthOf_X10_depthOf : GoodIn wsL_depthOf (wsV RL 49 RX10 yX10_depthOf wsX10_depthOf) := goodIn_app (goodIn_of _ (by decide +kernel)) ggL_depthOf_X10_depthOf
theorem dL_depthOf_0 : decode cL_depthOf 0 = .ok (.aload_n 2, 1) := by decide +kernel
theorem dL_depthOf_1 : decode cL_depthOf 1 = .ok (.iconst 0, 1) := by decide +kernel
theorem dL_depthOf_2 : decode cL_depthOf 2 = .ok (.aload_n 0, 1) := by decide +kernel
theorem dL_depthOf_3 : decode cL_depthOf 3 = .ok (.iload_n 1, 1) := by decide +kernel
theorem dL_depthOf_4 : decode cL_depthOf 4 = .ok (.invokevirtual 49, 3) := by decide +kernel
theorem dL_depthOf_7 : decode cL_depthOf 7 = .ok (.i2l, 1) := by decide +kernel
theorem dL_depthOf_8 : decode cL_depthOf 8 = .ok (.lastore, 1) := by decide +kernel
theorem dL_depthOf_9 : decode cL_depthOf 9 = .ok (.goto 6, 3) := by decide +kernel
theorem dL_depthOf_12 : decode cL_depthOf 12 = .ok (.astore_n 3, 1) := by decide +kernel
theorem dL_depthOf_13 : decode cL_depthOf 13 = .ok (.iconst 1, 1) := by decide +kernel
theorem dL_depthOf_14 : decode cL_depthOf 14 = .ok (.ireturn, 1) := by decide +kernel
theorem dL_depthOf_15 : decode cL_depthOf 15 = .ok (.iconst 0, 1) := by decide +kernel
theorem dL_depthOf_16 : decode cL_depthOf 16 = .ok (.ireturn, 1) := by decide +kernel
set_option maxRecDepth 20000 in
theorem ggL_unitCost_X10_unitCost : GoodIn wsL_unitCost wsX10_unitCost := goodIn_ca (goodIn_ca (goodIn_ca (goodIn_r _ [6, 7, 8, 9, 10, 11, 5, 12, 13, 14, 15, 16, 17, 18, 19, 20, 21, 22, 23, 24, 25, 26, 27, 28, 29, 30, 31, 32, 33, 34, 35, 36, 37, 38, 39, 40, 41, 42, 43, 44, 45, 46, 47, 48, 49, 50, 51, 52, 53, 54, 55, 56, 57, 58, 59, 60, 61, 62, 63, 64, 65, 66, 67, 68, 69, 70, 71, 72, 73, 74, 75, 76, 77, 78, 79, 80, 81, 82, 83, 84, 85, 86, 87, 88, 89, 90, 91, 92, 93, 94, 95, 96, 97, 98, 99, 100, 101, 102, 103, 104, 105, 106, 107, 108, 109, 110, 111, 112, 113, 114, 115, 116, 117, 118, 119, 120, 121, 122, 123, 124, 125, 126, 127, 128, 129, 130, 131, 132, 133, 134, 135, 136, 137, 138, 139, 140, 141, 142, 143, 144, 145, 146, 147, 148, 149, 150, 151, 152, 153, 154, 155, 156, 157, 158, 159, 160, 161, 162, 163, 164, 165, 166, 167, 168, 169, 170, 171, 172, 173, 174, 175, 176, 177, 178, 179, 180, 181, 182, 183, 184, 185, 186, 187, 188, 189, 190, 191, 192, 193, 194, 195, 196, 197, 198, 199, 200, 201, 202, 203, 204, 205, 206, 207, 208, 209, 210, 211, 212, 213, 214, 215, 216, 217, 218, 219, 220, 221] (by decide +kernel) (by decide +kernel)) (goodIn_sub (fun _ h => List.mem_cons_of_mem _ (List.mem_append_left _ (List.mem_append_right _ h))) (by decide +kernel))) (goodIn_sub (fun _ h => List.mem_cons_of_mem _ (List.mem_append_left _ (List.mem_append_left _ (List.mem_append_right _ h)))) (by decide +kernel))) (goodIn_sub (fun _ h => List.mem_cons_of_mem _ (List.mem_append_right _ h)) (by decide +kernel))
set_option maxRecDepth 20000 in
theorem gL_unitCost_X10_unitCost : GoodIn wsL_unitCost (wsV RL 52 RX10 yX10_unitCost wsX10_unitCost) := goodIn_app (goodIn_of _ (by decide +kernel)) ggL_unitCost_X10_unitCost
theorem dL_unitCost_0 : decode cL_unitCost 0 = .ok (.aload_n 2, 1) := by decide +kernel
theorem dL_unitCost_1 : decode cL_unitCost 1 = .ok (.iconst 0, 1) := by decide +kernel
theorem dL_unitCost_2 : decode cL_unitCost 2 = .ok (.aload_n 0, 1) := by decide +kernel
theorem dL_unitCost_3 : decode cL_unitCost 3 = .ok (.iload_n 1, 1) := by decide +kernel
theorem dL_unitCost_4 : decode cL_unitCost 4 = .ok (.invokevirtual 52, 3) := by decide +kernel
theorem dL_unitCost_7 : decode cL_unitCost 7 = .ok (.lastore, 1) := by decide +kernel
theorem dL_unitCost_8 : decode cL_unitCost 8 = .ok (.goto 6, 3) := by decide +kernel
theorem dL_unitCost_11 : decode cL_unitCost 11 = .ok (.astore_n 3, 1) := by decide +kernel
theorem dL_unitCost_12 : decode cL_unitCost 12 = .ok (.iconst 1, 1) := by decide +kernel
theorem dL_unitCost_13 : decode cL_unitCost 13 = .ok (.ireturn, 1) := by decide +kernel
theorem dL_unitCost_14 : decode cL_unitCost 14 = .ok (.iconst 0, 1) := by decide +kernel
theorem dL_unitCost_15 : decode cL_unitCost 15 = .ok (.ireturn, 1) := by decide +kernel
set_option maxRecDepth 20000 in
theorem ggL_needed_X10_needed : GoodIn wsL_needed wsX10_needed := goodIn_ca (goodIn_ca (goodIn_ca (goodIn_r _ [6, 7, 8, 9, 10, 11, 5, 12, 13, 14, 15, 16, 17, 18, 19, 20, 21, 22, 23, 24, 25, 26, 27, 28, 29, 30, 31, 32, 33, 34, 35, 36, 37, 38, 39, 40, 41, 42, 43, 44, 45, 46, 47, 48, 49, 50, 51, 52, 53, 54, 55, 56, 57, 58, 59, 60, 61, 62, 63, 64, 65, 66, 67, 68, 69, 70, 71, 72, 73, 74, 75, 76, 77, 78, 79, 80, 81, 82, 83, 84, 85, 86, 87, 88, 89, 90, 91, 92, 93, 94, 95, 96, 97, 98, 99, 100, 101, 102, 103, 104, 105, 106, 107, 108, 109, 110, 111, 112, 113, 114, 115, 116, 117, 118, 119, 120, 121, 122, 123, 124, 125, 126, 127, 128, 129, 130, 131, 132, 133, 134, 135, 136, 137, 138, 139, 140, 141, 142, 143, 144, 145, 146, 147, 148, 149, 150, 151, 152, 153, 154, 155, 156, 157, 158, 159, 160, 161, 162, 163, 164, 165, 166, 167, 168, 169, 170, 171, 172, 173, 174, 175, 176, 177, 178, 179, 180, 181, 182, 183, 184, 185, 186, 187, 188, 189, 190, 191, 192, 193, 194, 195, 196, 197, 198, 199, 200, 201, 202, 203, 204, 205, 206, 207, 208, 209, 210, 211, 212, 213, 214, 215, 216, 217, 218, 219, 220, 221, 222] (by decide +kernel) (by decide +kernel)) (goodIn_sub (fun _ h => List.mem_cons_of_mem _ (List.mem_append_left _ (List.mem_append_left _ (List.mem_append_right _ h)))) (by decide +kernel))) (goodIn_sub (fun _ h => List.mem_cons_of_mem _ (List.mem_append_left _ (List.mem_append_right _ h))) (by decide +kernel))) (goodIn_sub (fun _ h => List.mem_cons_of_mem _ (List.mem_append_right _ h)) (by decide +kernel))
set_option maxRecDepth 20000 in
theorem gL_needed_X10_needed : GoodIn wsL_needed (wsV RL 56 RX10 yX10_needed wsX10_needed) := goodIn_app (goodIn_of _ (by decide +kernel)) ggL_needed_X10_needed
theorem dL_needed_0 : decode cL_needed 0 = .ok (.aload_n 3, 1) := by decide +kernel
theorem dL_needed_1 : decode cL_needed 1 = .ok (.iconst 0, 1) := by decide +kernel
theorem dL_needed_2 : decode cL_needed 2 = .ok (.aload_n 0, 1) := by decide +kernel
theorem dL_needed_3 : decode cL_needed 3 = .ok (.iload_n 1, 1) := by decide +kernel
theorem dL_needed_4 : decode cL_needed 4 = .ok (.iload_n 2, 1) := by decide +kernel
theorem dL_needed_5 : decode cL_needed 5 = .ok (.invokevirtual 56, 3) := by decide +kernel
theorem dL_needed_8 : decode cL_needed 8 = .ok (.lastore, 1) := by decide +kernel
theorem dL_needed_9 : decode cL_needed 9 = .ok (.goto 7, 3) := by decide +kernel
theorem dL_needed_12 : decode cL_needed 12 = .ok (.astore 4, 2) := by decide +kernel
theorem dL_needed_14 : decode cL_needed 14 = .ok (.iconst 1, 1) := by decide +kernel
theorem dL_needed_15 : decode cL_needed 15 = .ok (.ireturn, 1) := by decide +kernel
theorem dL_needed_16 : decode cL_needed 16 = .ok (.iconst 0, 1) := by decide +kernel
theorem dL_needed_17 : decode cL_needed 17 = .ok (.ireturn, 1) := by decide +kernel
set_option maxRecDepth 20000 in
theorem ggL_addLine_X10_addLine : GoodIn wsL_addLine wsX10_addLine := goodIn_ca (goodIn_ca (goodIn_r _ [6, 7, 8, 9, 10, 11, 12, 13, 14, 5, 15, 16, 17, 18, 19, 20, 21, 22, 23, 24, 25, 26, 27, 28, 29, 30, 31, 32, 33, 34, 35, 36, 37, 38, 39, 40, 41, 42, 43, 44, 45, 46, 47, 48, 49, 50, 51, 52, 53, 54, 55, 56, 57, 58, 59, 60, 61, 62, 63, 64, 65, 66, 67, 68, 69, 70, 71, 72, 73, 74, 75, 76, 77, 78, 79, 80, 81, 82, 83, 84, 85, 86, 87, 88, 89, 90, 91, 92, 93, 94, 95, 96, 97, 98, 99, 100, 101, 102, 103, 104, 105, 106, 107, 108, 109] (by decide +kernel) (by decide +kernel)) (goodIn_sub (fun _ h => List.mem_cons_of_mem _ (List.mem_append_left _ (List.mem_append_right _ h))) (by decide +kernel))) (goodIn_sub (fun _ h => List.mem_cons_of_mem _ (List.mem_append_right _ h)) (by decide +kernel))
set_option maxRecDepth 20000 in
theorem gL_addLine_X10_addLine : GoodIn wsL_addLine (wsV RL 60 RX10 yX10_addLine wsX10_addLine) := goodIn_app (goodIn_of _ (by decide +kernel)) ggL_addLine_X10_addLine
theorem dL_addLine_0 : decode cL_addLine 0 = .ok (.aload_n 2, 1) := by decide +kernel
theorem dL_addLine_1 : decode cL_addLine 1 = .ok (.iconst 0, 1) := by decide +kernel
theorem dL_addLine_2 : decode cL_addLine 2 = .ok (.aload_n 0, 1) := by decide +kernel
theorem dL_addLine_3 : decode cL_addLine 3 = .ok (.iload_n 1, 1) := by decide +kernel
theorem dL_addLine_4 : decode cL_addLine 4 = .ok (.invokevirtual 60, 3) := by decide +kernel
theorem dL_addLine_7 : decode cL_addLine 7 = .ok (.i2l, 1) := by decide +kernel
theorem dL_addLine_8 : decode cL_addLine 8 = .ok (.lastore, 1) := by decide +kernel
theorem dL_addLine_9 : decode cL_addLine 9 = .ok (.goto 9, 3) := by decide +kernel
theorem dL_addLine_12 : decode cL_addLine 12 = .ok (.astore_n 3, 1) := by decide +kernel
theorem dL_addLine_13 : decode cL_addLine 13 = .ok (.iconst 1, 1) := by decide +kernel
theorem dL_addLine_14 : decode cL_addLine 14 = .ok (.ireturn, 1) := by decide +kernel
theorem dL_addLine_15 : decode cL_addLine 15 = .ok (.astore_n 3, 1) := by decide +kernel
theorem dL_addLine_16 : decode cL_addLine 16 = .ok (.iconst 2, 1) := by decide +kernel
theorem dL_addLine_17 : decode cL_addLine 17 = .ok (.ireturn, 1) := by decide +kernel
theorem dL_addLine_18 : decode cL_addLine 18 = .ok (.iconst 0, 1) := by decide +kernel
theorem dL_addLine_19 : decode cL_addLine 19 = .ok (.ireturn, 1) := by decide +kernel
set_option maxRecDepth 20000 in
theorem ggL_addRow_X10_addRow : GoodIn wsL_addRow wsX10_addRow := goodIn_ca (goodIn_ca (goodIn_ca (goodIn_ca (goodIn_r _ [6, 7, 8, 9, 10, 11, 12, 13, 14, 5, 15, 16, 17, 18, 19, 20, 21, 22, 23, 24, 25, 26, 27, 28, 29, 30, 31, 32, 33, 34, 35, 36, 37, 38, 39, 40, 41, 42, 43, 44, 45, 46, 47, 48, 49, 50, 51, 52, 53, 54, 55, 56, 57, 58, 59, 60, 61, 62, 63, 64, 65, 66, 67, 68, 69, 70, 71, 72, 73, 74, 75, 76, 77, 78, 79, 80, 81, 82, 83, 84, 85, 86, 87, 88, 89, 90, 91, 92, 93, 94, 95, 96, 97, 98, 99, 100, 101, 102, 103, 104, 105, 106, 107, 108, 109, 110, 111, 112, 113, 114, 115, 116, 117, 118, 119, 120, 121, 122, 123, 124, 125, 126, 127, 128, 129, 130, 131, 132, 133, 134, 135, 136, 137, 138, 139, 140, 141, 142, 143, 144, 145, 146, 147, 148, 149] (by decide +kernel) (by decide +kernel)) (goodIn_sub (fun _ h => List.mem_cons_of_mem _ (List.mem_append_left _ (List.mem_append_left _ (List.mem_append_left _ (List.mem_append_right _ h))))) (by decide +kernel))) (goodIn_sub (fun _ h => List.mem_cons_of_mem _ (List.mem_append_left _ (List.mem_append_left _ (List.mem_append_right _ h)))) (by decide +kernel))) (goodIn_sub (fun _ h => List.mem_cons_of_mem _ (List.mem_append_left _ (List.mem_append_right _ h))) (by decide +kernel))) (goodIn_sub (fun _ h => List.mem_cons_of_mem _ (List.mem_append_right _ h)) (by decide +kernel))
set_option maxRecDepth 20000 in
theorem gL_addRow_X10_addRow : GoodIn wsL_addRow (wsV RL 63 RX10 yX10_addRow wsX10_addRow) := goodIn_app (goodIn_of _ (by decide +kernel)) ggL_addRow_X10_addRow
theorem dL_addRow_0 : decode cL_addRow 0 = .ok (.aload 7, 2) := by decide +kernel
theorem dL_addRow_2 : decode cL_addRow 2 = .ok (.iconst 0, 1) := by decide +kernel
theorem dL_addRow_3 : decode cL_addRow 3 = .ok (.aload_n 0, 1) := by decide +kernel
theorem dL_addRow_4 : decode cL_addRow 4 = .ok (.iload_n 1, 1) := by decide +kernel
theorem dL_addRow_5 : decode cL_addRow 5 = .ok (.iload_n 2, 1) := by decide +kernel
theorem dL_addRow_6 : decode cL_addRow 6 = .ok (.iload_n 3, 1) := by decide +kernel
theorem dL_addRow_7 : decode cL_addRow 7 = .ok (.iload 4, 2) := by decide +kernel
theorem dL_addRow_9 : decode cL_addRow 9 = .ok (.iload 5, 2) := by decide +kernel
theorem dL_addRow_11 : decode cL_addRow 11 = .ok (.iload 6, 2) := by decide +kernel
theorem dL_addRow_13 : decode cL_addRow 13 = .ok (.invokevirtual 63, 3) := by decide +kernel
theorem dL_addRow_16 : decode cL_addRow 16 = .ok (.i2l, 1) := by decide +kernel
theorem dL_addRow_17 : decode cL_addRow 17 = .ok (.lastore, 1) := by decide +kernel
theorem dL_addRow_18 : decode cL_addRow 18 = .ok (.goto 19, 3) := by decide +kernel
theorem dL_addRow_21 : decode cL_addRow 21 = .ok (.astore 8, 2) := by decide +kernel
theorem dL_addRow_23 : decode cL_addRow 23 = .ok (.iconst 1, 1) := by decide +kernel
theorem dL_addRow_24 : decode cL_addRow 24 = .ok (.ireturn, 1) := by decide +kernel
theorem dL_addRow_25 : decode cL_addRow 25 = .ok (.astore 8, 2) := by decide +kernel
theorem dL_addRow_27 : decode cL_addRow 27 = .ok (.iconst 2, 1) := by decide +kernel
theorem dL_addRow_28 : decode cL_addRow 28 = .ok (.ireturn, 1) := by decide +kernel
theorem dL_addRow_29 : decode cL_addRow 29 = .ok (.astore 8, 2) := by decide +kernel
theorem dL_addRow_31 : decode cL_addRow 31 = .ok (.iconst 3, 1) := by decide +kernel
theorem dL_addRow_32 : decode cL_addRow 32 = .ok (.ireturn, 1) := by decide +kernel
theorem dL_addRow_33 : decode cL_addRow 33 = .ok (.astore 8, 2) := by decide +kernel
theorem dL_addRow_35 : decode cL_addRow 35 = .ok (.iconst 4, 1) := by decide +kernel
theorem dL_addRow_36 : decode cL_addRow 36 = .ok (.ireturn, 1) := by decide +kernel
theorem dL_addRow_37 : decode cL_addRow 37 = .ok (.iconst 0, 1) := by decide +kernel
theorem dL_addRow_38 : decode cL_addRow 38 = .ok (.ireturn, 1) := by decide +kernel
set_option maxRecDepth 20000 in
theorem ggL_dropRow_X10_dropRow : GoodIn wsL_dropRow wsX10_dropRow := goodIn_ca (goodIn_ca (goodIn_r _ [6, 7, 8, 9, 10, 11, 12, 13, 14, 5, 15, 16, 17, 18, 19, 20, 21, 22, 23, 24, 25, 26, 27, 28, 29, 30, 31, 32, 33, 34, 35, 36, 37, 38, 39, 40, 41, 42, 43, 44, 45, 46, 47, 48, 49, 50, 51, 52, 53, 54, 55, 56, 57, 58, 59, 60, 61, 62, 63, 64, 65, 66, 67, 68, 69, 70, 71, 72, 73, 74, 75, 76, 77, 78, 79, 80, 81, 82, 83] (by decide +kernel) (by decide +kernel)) (goodIn_sub (fun _ h => List.mem_cons_of_mem _ (List.mem_append_left _ (List.mem_append_right _ h))) (by decide +kernel))) (goodIn_sub (fun _ h => List.mem_cons_of_mem _ (List.mem_append_right _ h)) (by decide +kernel))
set_option maxRecDepth 20000 in
theorem gL_dropRow_X10_dropRow : GoodIn wsL_dropRow (wsV RL 69 RX10 yX10_dropRow wsX10_dropRow) := goodIn_app (goodIn_of _ (by decide +kernel)) ggL_dropRow_X10_dropRow
theorem dL_dropRow_0 : decode cL_dropRow 0 = .ok (.aload_n 2, 1) := by decide +kernel
theorem dL_dropRow_1 : decode cL_dropRow 1 = .ok (.iconst 0, 1) := by decide +kernel
theorem dL_dropRow_2 : decode cL_dropRow 2 = .ok (.aload_n 0, 1) := by decide +kernel
theorem dL_dropRow_3 : decode cL_dropRow 3 = .ok (.iload_n 1, 1) := by decide +kernel
theorem dL_dropRow_4 : decode cL_dropRow 4 = .ok (.invokevirtual 69, 3) := by decide +kernel
theorem dL_dropRow_7 : decode cL_dropRow 7 = .ok (.i2l, 1) := by decide +kernel
theorem dL_dropRow_8 : decode cL_dropRow 8 = .ok (.lastore, 1) := by decide +kernel
theorem dL_dropRow_9 : decode cL_dropRow 9 = .ok (.goto 9, 3) := by decide +kernel
theorem dL_dropRow_12 : decode cL_dropRow 12 = .ok (.astore_n 3, 1) := by decide +kernel
theorem dL_dropRow_13 : decode cL_dropRow 13 = .ok (.iconst 1, 1) := by decide +kernel
theorem dL_dropRow_14 : decode cL_dropRow 14 = .ok (.ireturn, 1) := by decide +kernel
theorem dL_dropRow_15 : decode cL_dropRow 15 = .ok (.astore_n 3, 1) := by decide +kernel
theorem dL_dropRow_16 : decode cL_dropRow 16 = .ok (.iconst 2, 1) := by decide +kernel
theorem dL_dropRow_17 : decode cL_dropRow 17 = .ok (.ireturn, 1) := by decide +kernel
theorem dL_dropRow_18 : decode cL_dropRow 18 = .ok (.iconst 0, 1) := by decide +kernel
theorem dL_dropRow_19 : decode cL_dropRow 19 = .ok (.ireturn, 1) := by decide +kernel
set_option maxRecDepth 20000 in
theorem ggL_measure_X10_measure : GoodIn wsL_measure wsX10_measure := goodIn_ca (goodIn_r _ [6, 7, 8, 9, 10, 11, 12, 13, 5, 14, 15, 16, 17, 18, 19, 20, 21, 22, 23, 24, 25, 26, 27, 28, 29, 30, 31, 32, 33, 34, 35, 36, 37, 38, 39, 40, 41, 42, 43, 44, 45, 46, 47, 48, 49, 50, 51, 52, 53, 54, 55, 56, 57] (by decide +kernel) (by decide +kernel)) (goodIn_sub (fun _ h => List.mem_cons_of_mem _ (List.mem_append_right _ h)) (by decide +kernel))
set_option maxRecDepth 20000 in
theorem gL_measure_X10_measure : GoodIn wsL_measure (wsV RL 72 RX10 yX10_measure wsX10_measure) := goodIn_app (goodIn_of _ (by decide +kernel)) ggL_measure_X10_measure
theorem dL_measure_0 : decode cL_measure 0 = .ok (.aload_n 2, 1) := by decide +kernel
theorem dL_measure_1 : decode cL_measure 1 = .ok (.iconst 0, 1) := by decide +kernel
theorem dL_measure_2 : decode cL_measure 2 = .ok (.aload_n 0, 1) := by decide +kernel
theorem dL_measure_3 : decode cL_measure 3 = .ok (.iload_n 1, 1) := by decide +kernel
theorem dL_measure_4 : decode cL_measure 4 = .ok (.invokevirtual 72, 3) := by decide +kernel
theorem dL_measure_7 : decode cL_measure 7 = .ok (.i2l, 1) := by decide +kernel
theorem dL_measure_8 : decode cL_measure 8 = .ok (.lastore, 1) := by decide +kernel
theorem dL_measure_9 : decode cL_measure 9 = .ok (.goto 6, 3) := by decide +kernel
theorem dL_measure_12 : decode cL_measure 12 = .ok (.astore_n 3, 1) := by decide +kernel
theorem dL_measure_13 : decode cL_measure 13 = .ok (.iconst 1, 1) := by decide +kernel
theorem dL_measure_14 : decode cL_measure 14 = .ok (.ireturn, 1) := by decide +kernel
theorem dL_measure_15 : decode cL_measure 15 = .ok (.iconst 0, 1) := by decide +kernel
theorem dL_measure_16 : decode cL_measure 16 = .ok (.ireturn, 1) := by decide +kernel
set_option maxRecDepth 20000 in
theorem ggL_quantity_X10_quantity : GoodIn wsL_quantity wsX10_quantity := goodIn_ca (goodIn_r _ [6, 7, 8, 9, 10, 11, 12, 13, 5, 14, 15, 16, 17, 18, 19, 20, 21, 22, 23, 24, 25, 26, 27, 28, 29, 30, 31, 32, 33, 34, 35, 36, 37, 38, 39, 40, 41, 42, 43, 44, 45, 46, 47, 48, 49, 50, 51, 52, 53, 54, 55, 56, 57] (by decide +kernel) (by decide +kernel)) (goodIn_sub (fun _ h => List.mem_cons_of_mem _ (List.mem_append_right _ h)) (by decide +kernel))
set_option maxRecDepth 20000 in
theorem gL_quantity_X10_quantity : GoodIn wsL_quantity (wsV RL 75 RX10 yX10_quantity wsX10_quantity) := goodIn_app (goodIn_of _ (by decide +kernel)) ggL_quantity_X10_quantity
theorem dL_quantity_0 : decode cL_quantity 0 = .ok (.aload_n 2, 1) := by decide +kernel
theorem dL_quantity_1 : decode cL_quantity 1 = .ok (.iconst 0, 1) := by decide +kernel
theorem dL_quantity_2 : decode cL_quantity 2 = .ok (.aload_n 0, 1) := by decide +kernel
theorem dL_quantity_3 : decode cL_quantity 3 = .ok (.iload_n 1, 1) := by decide +kernel
theorem dL_quantity_4 : decode cL_quantity 4 = .ok (.invokevirtual 75, 3) := by decide +kernel
theorem dL_quantity_7 : decode cL_quantity 7 = .ok (.i2l, 1) := by decide +kernel
theorem dL_quantity_8 : decode cL_quantity 8 = .ok (.lastore, 1) := by decide +kernel
theorem dL_quantity_9 : decode cL_quantity 9 = .ok (.goto 6, 3) := by decide +kernel
theorem dL_quantity_12 : decode cL_quantity 12 = .ok (.astore_n 3, 1) := by decide +kernel
theorem dL_quantity_13 : decode cL_quantity 13 = .ok (.iconst 1, 1) := by decide +kernel
theorem dL_quantity_14 : decode cL_quantity 14 = .ok (.ireturn, 1) := by decide +kernel
theorem dL_quantity_15 : decode cL_quantity 15 = .ok (.iconst 0, 1) := by decide +kernel
theorem dL_quantity_16 : decode cL_quantity 16 = .ok (.ireturn, 1) := by decide +kernel
set_option maxRecDepth 20000 in
theorem ggL_addVariant_X10_addVariant : GoodIn wsL_addVariant wsX10_addVariant := goodIn_ca (goodIn_r _ [6, 7, 8, 9, 10, 11, 12, 13, 14, 15, 16, 17, 18, 19, 5, 20, 21, 22, 23, 24, 25, 26, 27, 28, 29, 30, 31, 32, 33, 34, 35, 36, 37, 38, 39, 40, 41, 42, 43, 44, 45, 46, 47, 48, 49, 50, 51, 52, 53, 54, 55, 56, 57, 58, 59, 60, 61, 62, 63, 64, 65, 66, 67, 68, 69, 70, 71, 72, 73, 74, 75, 76, 77, 78, 79, 80, 81, 82, 83, 84, 85, 86, 87, 88, 89, 90, 91, 92, 93, 94, 95, 96, 97, 98, 99, 100, 101, 102, 103] (by decide +kernel) (by decide +kernel)) (goodIn_sub (fun _ h => List.mem_cons_of_mem _ (List.mem_append_right _ h)) (by decide +kernel))
set_option maxRecDepth 20000 in
theorem gL_addVariant_X10_addVariant : GoodIn wsL_addVariant (wsV RL 78 RX10 yX10_addVariant wsX10_addVariant) := goodIn_app (goodIn_of _ (by decide +kernel)) ggL_addVariant_X10_addVariant
theorem dL_addVariant_0 : decode cL_addVariant 0 = .ok (.aload_n 1, 1) := by decide +kernel
theorem dL_addVariant_1 : decode cL_addVariant 1 = .ok (.iconst 0, 1) := by decide +kernel
theorem dL_addVariant_2 : decode cL_addVariant 2 = .ok (.aload_n 0, 1) := by decide +kernel
theorem dL_addVariant_3 : decode cL_addVariant 3 = .ok (.invokevirtual 78, 3) := by decide +kernel
theorem dL_addVariant_6 : decode cL_addVariant 6 = .ok (.i2l, 1) := by decide +kernel
theorem dL_addVariant_7 : decode cL_addVariant 7 = .ok (.lastore, 1) := by decide +kernel
theorem dL_addVariant_8 : decode cL_addVariant 8 = .ok (.goto 6, 3) := by decide +kernel
theorem dL_addVariant_11 : decode cL_addVariant 11 = .ok (.astore_n 2, 1) := by decide +kernel
theorem dL_addVariant_12 : decode cL_addVariant 12 = .ok (.iconst 1, 1) := by decide +kernel
theorem dL_addVariant_13 : decode cL_addVariant 13 = .ok (.ireturn, 1) := by decide +kernel
theorem dL_addVariant_14 : decode cL_addVariant 14 = .ok (.iconst 0, 1) := by decide +kernel
theorem dL_addVariant_15 : decode cL_addVariant 15 = .ok (.ireturn, 1) := by decide +kernel
set_option maxRecDepth 20000 in
theorem ggL_replaceItem_X10_replaceItem : GoodIn wsL_replaceItem wsX10_replaceItem := goodIn_ca (goodIn_ca (goodIn_ca (goodIn_ca (goodIn_r _ [6, 7, 8, 9, 10, 11, 12, 13, 14, 15, 5, 16, 17, 18, 19, 20, 21, 22, 23, 24, 25, 26, 27, 28, 29, 30, 31, 32, 33, 34, 35, 36, 37, 38, 39, 40, 41, 42, 43, 44, 45, 46, 47, 48, 49, 50, 51, 52, 53, 54, 55, 56, 57, 58, 59, 60, 61, 62, 63, 64, 65, 66, 67, 68, 69, 70, 71, 72, 73, 74, 75, 76, 77] (by decide +kernel) (by decide +kernel)) (goodIn_sub (fun _ h => List.mem_cons_of_mem _ (List.mem_append_left _ (List.mem_append_left _ (List.mem_append_right _ h)))) (by decide +kernel))) (goodIn_sub (fun _ h => List.mem_cons_of_mem _ (List.mem_append_left _ (List.mem_append_left _ (List.mem_append_left _ (List.mem_append_right _ h))))) (by decide +kernel))) (goodIn_sub (fun _ h => List.mem_cons_of_mem _ (List.mem_append_left _ (List.mem_append_right _ h))) (by decide +kernel))) (goodIn_sub (fun _ h => List.mem_cons_of_mem _ (List.mem_append_right _ h)) (by decide +kernel))
set_option maxRecDepth 20000 in
theorem gL_replaceItem_X10_replaceItem : GoodIn wsL_replaceItem (wsV RL 81 RX10 yX10_replaceItem wsX10_replaceItem) := goodIn_app (goodIn_of _ (by decide +kernel)) ggL_replaceItem_X10_replaceItem
theorem dL_replaceItem_0 : decode cL_replaceItem 0 = .ok (.aload 4, 2) := by decide +kernel
theorem dL_replaceItem_2 : decode cL_replaceItem 2 = .ok (.iconst 0, 1) := by decide +kernel
theorem dL_replaceItem_3 : decode cL_replaceItem 3 = .ok (.aload_n 0, 1) := by decide +kernel
theorem dL_replaceItem_4 : decode cL_replaceItem 4 = .ok (.iload_n 1, 1) := by decide +kernel
theorem dL_replaceItem_5 : decode cL_replaceItem 5 = .ok (.iload_n 2, 1) := by decide +kernel
theorem dL_replaceItem_6 : decode cL_replaceItem 6 = .ok (.iload_n 3, 1) := by decide +kernel
theorem dL_replaceItem_7 : decode cL_replaceItem 7 = .ok (.invokevirtual 81, 3) := by decide +kernel
theorem dL_replaceItem_10 : decode cL_replaceItem 10 = .ok (.i2l, 1) := by decide +kernel
theorem dL_replaceItem_11 : decode cL_replaceItem 11 = .ok (.lastore, 1) := by decide +kernel
theorem dL_replaceItem_12 : decode cL_replaceItem 12 = .ok (.goto 15, 3) := by decide +kernel
theorem dL_replaceItem_15 : decode cL_replaceItem 15 = .ok (.astore 5, 2) := by decide +kernel
theorem dL_replaceItem_17 : decode cL_replaceItem 17 = .ok (.iconst 1, 1) := by decide +kernel
theorem dL_replaceItem_18 : decode cL_replaceItem 18 = .ok (.ireturn, 1) := by decide +kernel
theorem dL_replaceItem_19 : decode cL_replaceItem 19 = .ok (.astore 5, 2) := by decide +kernel
theorem dL_replaceItem_21 : decode cL_replaceItem 21 = .ok (.iconst 2, 1) := by decide +kernel
theorem dL_replaceItem_22 : decode cL_replaceItem 22 = .ok (.ireturn, 1) := by decide +kernel
theorem dL_replaceItem_23 : decode cL_replaceItem 23 = .ok (.astore 5, 2) := by decide +kernel
theorem dL_replaceItem_25 : decode cL_replaceItem 25 = .ok (.iconst 3, 1) := by decide +kernel
theorem dL_replaceItem_26 : decode cL_replaceItem 26 = .ok (.ireturn, 1) := by decide +kernel
theorem dL_replaceItem_27 : decode cL_replaceItem 27 = .ok (.iconst 0, 1) := by decide +kernel
theorem dL_replaceItem_28 : decode cL_replaceItem 28 = .ok (.ireturn, 1) := by decide +kernel
set_option maxRecDepth 20000 in
theorem ggL_replaceResource_X10_replaceResource : GoodIn wsL_replaceResource wsX10_replaceResource := goodIn_ca (goodIn_ca (goodIn_ca (goodIn_ca (goodIn_r _ [6, 7, 8, 9, 10, 11, 12, 13, 14, 15, 16, 17, 18, 5, 19, 20, 21, 22, 23, 24, 25, 26, 27, 28, 29, 30, 31, 32, 33, 34, 35, 36, 37, 38, 39, 40, 41, 42, 43, 44, 45, 46, 47, 48, 49, 50, 51, 52, 53, 54, 55, 56, 57, 58, 59, 60, 61, 62, 63, 64, 65, 66, 67, 68, 69, 70, 71, 72, 73, 74, 75, 76, 77, 78, 79, 80, 81, 82, 83] (by decide +kernel) (by decide +kernel)) (goodIn_sub (fun _ h => List.mem_cons_of_mem _ (List.mem_append_left _ (List.mem_append_left _ (List.mem_append_right _ h)))) (by decide +kernel))) (goodIn_sub (fun _ h => List.mem_cons_of_mem _ (List.mem_append_left _ (List.mem_append_left _ (List.mem_append_left _ (List.mem_append_right _ h))))) (by decide +kernel))) (goodIn_sub (fun _ h => List.mem_cons_of_mem _ (List.mem_append_left _ (List.mem_append_right _ h))) (by decide +kernel))) (goodIn_sub (fun _ h => List.mem_cons_of_mem _ (List.mem_append_right _ h)) (by decide +kernel))
set_option maxRecDepth 20000 in
theorem gL_replaceResource_X10_replaceResource : GoodIn wsL_replaceResource (wsV RL 84 RX10 yX10_replaceResource wsX10_replaceResource) := goodIn_app (goodIn_of _ (by decide +kernel)) ggL_replaceResource_X10_replaceResource
theorem dL_replaceResource_0 : decode cL_replaceResource 0 = .ok (.aload 4, 2) := by decide +kernel
theorem dL_replaceResource_2 : decode cL_replaceResource 2 = .ok (.iconst 0, 1) := by decide +kernel
theorem dL_replaceResource_3 : decode cL_replaceResource 3 = .ok (.aload_n 0, 1) := by decide +kernel
theorem dL_replaceResource_4 : decode cL_replaceResource 4 = .ok (.iload_n 1, 1) := by decide +kernel
theorem dL_replaceResource_5 : decode cL_replaceResource 5 = .ok (.iload_n 2, 1) := by decide +kernel
theorem dL_replaceResource_6 : decode cL_replaceResource 6 = .ok (.iload_n 3, 1) := by decide +kernel
theorem dL_replaceResource_7 : decode cL_replaceResource 7 = .ok (.invokevirtual 84, 3) := by decide +kernel
theorem dL_replaceResource_10 : decode cL_replaceResource 10 = .ok (.i2l, 1) := by decide +kernel
theorem dL_replaceResource_11 : decode cL_replaceResource 11 = .ok (.lastore, 1) := by decide +kernel
theorem dL_replaceResource_12 : decode cL_replaceResource 12 = .ok (.goto 15, 3) := by decide +kernel
theorem dL_replaceResource_15 : decode cL_replaceResource 15 = .ok (.astore 5, 2) := by decide +kernel
theorem dL_replaceResource_17 : decode cL_replaceResource 17 = .ok (.iconst 1, 1) := by decide +kernel
theorem dL_replaceResource_18 : decode cL_replaceResource 18 = .ok (.ireturn, 1) := by decide +kernel
theorem dL_replaceResource_19 : decode cL_replaceResource 19 = .ok (.astore 5, 2) := by decide +kernel
theorem dL_replaceResource_21 : decode cL_replaceResource 21 = .ok (.iconst 2, 1) := by decide +kernel
theorem dL_replaceResource_22 : decode cL_replaceResource 22 = .ok (.ireturn, 1) := by decide +kernel
theorem dL_replaceResource_23 : decode cL_replaceResource 23 = .ok (.astore 5, 2) := by decide +kernel
theorem dL_replaceResource_25 : decode cL_replaceResource 25 = .ok (.iconst 3, 1) := by decide +kernel
theorem dL_replaceResource_26 : decode cL_replaceResource 26 = .ok (.ireturn, 1) := by decide +kernel
theorem dL_replaceResource_27 : decode cL_replaceResource 27 = .ok (.iconst 0, 1) := by decide +kernel
theorem dL_replaceResource_28 : decode cL_replaceResource 28 = .ok (.ireturn, 1) := by decide +kernel
set_option maxRecDepth 20000 in
theorem ggL_turn_X10_turn : GoodIn wsL_turn wsX10_turn := goodIn_ca (goodIn_ca (goodIn_ca (goodIn_r _ [6, 7, 8, 9, 10, 5, 11, 12, 13, 14, 15, 16, 17, 18, 19, 20, 21, 22, 23, 24, 25, 26, 27, 28, 29, 30, 31, 32, 33, 34, 35, 36, 37, 38, 39, 40, 41, 42, 43, 44, 45, 46, 47, 48, 49, 50, 51, 52, 53, 54, 55, 56, 57, 58, 59, 60, 61, 62, 63, 64, 65, 66, 67, 68, 69, 70, 71, 72, 73, 74, 75, 76, 77, 78, 79, 80, 81, 82, 83, 84, 85, 86, 87, 88, 89, 90, 91, 92, 93, 94, 95, 96, 97, 98, 99, 100, 101, 102, 103, 104, 105, 106, 107, 108, 109, 110, 111, 112, 113, 114, 115, 116, 117, 118, 119, 120, 121, 122, 123, 124, 125] (by decide +kernel) (by decide +kernel)) (goodIn_sub (fun _ h => List.mem_cons_of_mem _ (List.mem_append_left _ (List.mem_append_right _ h))) (by decide +kernel))) (goodIn_sub (fun _ h => List.mem_cons_of_mem _ (List.mem_append_right _ h)) (by decide +kernel))) (goodIn_sub (fun _ h => List.mem_cons_of_mem _ (List.mem_append_left _ (List.mem_append_left _ (List.mem_append_right _ h)))) (by decide +kernel))
set_option maxRecDepth 20000 in
theorem gL_turn_X10_turn : GoodIn wsL_turn (wsV RL 87 RX10 yX10_turn wsX10_turn) := goodIn_app (goodIn_of _ (by decide +kernel)) ggL_turn_X10_turn
theorem dL_turn_0 : decode cL_turn 0 = .ok (.aload_n 3, 1) := by decide +kernel
theorem dL_turn_1 : decode cL_turn 1 = .ok (.iconst 0, 1) := by decide +kernel
theorem dL_turn_2 : decode cL_turn 2 = .ok (.aload_n 0, 1) := by decide +kernel
theorem dL_turn_3 : decode cL_turn 3 = .ok (.iload_n 1, 1) := by decide +kernel
theorem dL_turn_4 : decode cL_turn 4 = .ok (.iload_n 2, 1) := by decide +kernel
theorem dL_turn_5 : decode cL_turn 5 = .ok (.invokevirtual 87, 3) := by decide +kernel
theorem dL_turn_8 : decode cL_turn 8 = .ok (.ifCond .eq 7, 3) := by decide +kernel
theorem dL_turn_11 : decode cL_turn 11 = .ok (.lconst 1, 1) := by decide +kernel
theorem dL_turn_12 : decode cL_turn 12 = .ok (.goto 4, 3) := by decide +kernel
theorem dL_turn_15 : decode cL_turn 15 = .ok (.lconst 0, 1) := by decide +kernel
theorem dL_turn_16 : decode cL_turn 16 = .ok (.lastore, 1) := by decide +kernel
theorem dL_turn_17 : decode cL_turn 17 = .ok (.goto 11, 3) := by decide +kernel
theorem dL_turn_20 : decode cL_turn 20 = .ok (.astore 4, 2) := by decide +kernel
theorem dL_turn_22 : decode cL_turn 22 = .ok (.iconst 1, 1) := by decide +kernel
theorem dL_turn_23 : decode cL_turn 23 = .ok (.ireturn, 1) := by decide +kernel
theorem dL_turn_24 : decode cL_turn 24 = .ok (.astore 4, 2) := by decide +kernel
theorem dL_turn_26 : decode cL_turn 26 = .ok (.iconst 2, 1) := by decide +kernel
theorem dL_turn_27 : decode cL_turn 27 = .ok (.ireturn, 1) := by decide +kernel
theorem dL_turn_28 : decode cL_turn 28 = .ok (.iconst 0, 1) := by decide +kernel
theorem dL_turn_29 : decode cL_turn 29 = .ok (.ireturn, 1) := by decide +kernel
set_option maxRecDepth 20000 in
theorem ggL_difference_X10_difference : GoodIn wsL_difference wsX10_difference := goodIn_ca (goodIn_ca (goodIn_ca (goodIn_ca (goodIn_r _ [6, 7, 8, 9, 10, 11, 5, 12, 13, 14, 15, 16, 17, 18, 19, 20, 21, 22, 23, 24, 25, 26, 27, 28, 29, 30, 31, 32, 33, 34, 35, 36, 37, 38, 39, 40, 41, 42, 43, 44, 45, 46, 47, 48, 49, 50, 51, 52, 53, 54, 55, 56, 57, 58, 59, 60, 61, 62, 63, 64, 65, 66, 67, 68, 69, 70, 71, 72, 73, 74, 75, 76, 77, 78, 79, 80, 81, 82, 83, 84, 85, 86, 87, 88, 89, 90, 91, 92, 93, 94, 95, 96, 97, 98, 99, 100, 101, 102, 103, 104, 105, 106, 107, 108, 109, 110, 111, 112, 113, 114, 115, 116, 117, 118, 119, 120, 121, 122, 123, 124, 125, 126, 127, 128, 129, 130, 131, 132, 133, 134, 135, 136, 137, 138, 139, 140, 141, 142, 143, 144, 145, 146, 147, 148, 149, 150, 151, 152, 153, 154, 155, 156, 157, 158, 159, 160, 161, 162, 163, 164, 165, 166, 167, 168, 169, 170, 171, 172, 173, 174, 175, 176, 177, 178, 179, 180, 181, 182, 183, 184, 185, 186, 187, 188, 189, 190, 191, 192, 193, 194, 195, 196, 197, 198, 199, 200, 201, 202, 203, 204, 205, 206, 207, 208, 209, 210, 211, 212, 213, 214, 215, 216, 217, 218, 219, 220, 221, 222, 223, 224, 225, 226, 227, 228, 229, 230, 231, 232, 233, 234, 235] (by decide +kernel) (by decide +kernel)) (goodIn_sub (fun _ h => List.mem_cons_of_mem _ (List.mem_append_left _ (List.mem_append_left _ (List.mem_append_right _ h)))) (by decide +kernel))) (goodIn_sub (fun _ h => List.mem_cons_of_mem _ (List.mem_append_left _ (List.mem_append_right _ h))) (by decide +kernel))) (goodIn_sub (fun _ h => List.mem_cons_of_mem _ (List.mem_append_left _ (List.mem_append_left _ (List.mem_append_left _ (List.mem_append_right _ h))))) (by decide +kernel))) (goodIn_sub (fun _ h => List.mem_cons_of_mem _ (List.mem_append_right _ h)) (by decide +kernel))
set_option maxRecDepth 20000 in
theorem gL_difference_X10_difference : GoodIn wsL_difference (wsV RL 91 RX10 yX10_difference wsX10_difference) := goodIn_app (goodIn_of _ (by decide +kernel)) ggL_difference_X10_difference
theorem dL_difference_0 : decode cL_difference 0 = .ok (.aload_n 2, 1) := by decide +kernel
theorem dL_difference_1 : decode cL_difference 1 = .ok (.iconst 0, 1) := by decide +kernel
theorem dL_difference_2 : decode cL_difference 2 = .ok (.aload_n 0, 1) := by decide +kernel
theorem dL_difference_3 : decode cL_difference 3 = .ok (.iload_n 1, 1) := by decide +kernel
theorem dL_difference_4 : decode cL_difference 4 = .ok (.invokevirtual 91, 3) := by decide +kernel
theorem dL_difference_7 : decode cL_difference 7 = .ok (.lastore, 1) := by decide +kernel
theorem dL_difference_8 : decode cL_difference 8 = .ok (.goto 9, 3) := by decide +kernel
theorem dL_difference_11 : decode cL_difference 11 = .ok (.astore_n 3, 1) := by decide +kernel
theorem dL_difference_12 : decode cL_difference 12 = .ok (.iconst 1, 1) := by decide +kernel
theorem dL_difference_13 : decode cL_difference 13 = .ok (.ireturn, 1) := by decide +kernel
theorem dL_difference_14 : decode cL_difference 14 = .ok (.astore_n 3, 1) := by decide +kernel
theorem dL_difference_15 : decode cL_difference 15 = .ok (.iconst 2, 1) := by decide +kernel
theorem dL_difference_16 : decode cL_difference 16 = .ok (.ireturn, 1) := by decide +kernel
theorem dL_difference_17 : decode cL_difference 17 = .ok (.iconst 0, 1) := by decide +kernel
theorem dL_difference_18 : decode cL_difference 18 = .ok (.ireturn, 1) := by decide +kernel
set_option maxRecDepth 20000 in
theorem ggL_addMarkup_X10_addMarkup : GoodIn wsL_addMarkup wsX10_addMarkup := goodIn_ca (goodIn_ca (goodIn_r _ [6, 7, 8, 9, 10, 11, 12, 13, 14, 15, 16, 17, 18, 19, 20, 21, 5, 22, 23, 24, 25, 26, 27, 28, 29, 30, 31, 32, 33, 34, 35, 36, 37, 38, 39, 40, 41, 42, 43, 44, 45, 46, 47, 48, 49, 50, 51, 52, 53, 54, 55, 56, 57, 58, 59, 60, 61, 62, 63, 64, 65, 66, 67, 68, 69, 70, 71, 72, 73, 74, 75, 76, 77, 78, 79, 80, 81, 82, 83, 84, 85, 86, 87, 88, 89, 90, 91, 92, 93, 94, 95, 96, 97, 98, 99, 100, 101, 102, 103, 104] (by decide +kernel) (by decide +kernel)) (goodIn_sub (fun _ h => List.mem_cons_of_mem _ (List.mem_append_left _ (List.mem_append_right _ h))) (by decide +kernel))) (goodIn_sub (fun _ h => List.mem_cons_of_mem _ (List.mem_append_right _ h)) (by decide +kernel))
set_option maxRecDepth 20000 in
theorem gL_addMarkup_X10_addMarkup : GoodIn wsL_addMarkup (wsV RL 94 RX10 yX10_addMarkup wsX10_addMarkup) := goodIn_app (goodIn_of _ (by decide +kernel)) ggL_addMarkup_X10_addMarkup
theorem dL_addMarkup_0 : decode cL_addMarkup 0 = .ok (.aload_n 3, 1) := by decide +kernel
theorem dL_addMarkup_1 : decode cL_addMarkup 1 = .ok (.iconst 0, 1) := by decide +kernel
theorem dL_addMarkup_2 : decode cL_addMarkup 2 = .ok (.aload_n 0, 1) := by decide +kernel
theorem dL_addMarkup_3 : decode cL_addMarkup 3 = .ok (.iload_n 1, 1) := by decide +kernel
theorem dL_addMarkup_4 : decode cL_addMarkup 4 = .ok (.iload_n 2, 1) := by decide +kernel
theorem dL_addMarkup_5 : decode cL_addMarkup 5 = .ok (.invokevirtual 94, 3) := by decide +kernel
theorem dL_addMarkup_8 : decode cL_addMarkup 8 = .ok (.i2l, 1) := by decide +kernel
theorem dL_addMarkup_9 : decode cL_addMarkup 9 = .ok (.lastore, 1) := by decide +kernel
theorem dL_addMarkup_10 : decode cL_addMarkup 10 = .ok (.goto 11, 3) := by decide +kernel
theorem dL_addMarkup_13 : decode cL_addMarkup 13 = .ok (.astore 4, 2) := by decide +kernel
theorem dL_addMarkup_15 : decode cL_addMarkup 15 = .ok (.iconst 1, 1) := by decide +kernel
theorem dL_addMarkup_16 : decode cL_addMarkup 16 = .ok (.ireturn, 1) := by decide +kernel
theorem dL_addMarkup_17 : decode cL_addMarkup 17 = .ok (.astore 4, 2) := by decide +kernel
theorem dL_addMarkup_19 : decode cL_addMarkup 19 = .ok (.iconst 2, 1) := by decide +kernel
theorem dL_addMarkup_20 : decode cL_addMarkup 20 = .ok (.ireturn, 1) := by decide +kernel
theorem dL_addMarkup_21 : decode cL_addMarkup 21 = .ok (.iconst 0, 1) := by decide +kernel
theorem dL_addMarkup_22 : decode cL_addMarkup 22 = .ok (.ireturn, 1) := by decide +kernel
set_option maxRecDepth 20000 in
theorem ggL_setPercent_X10_setPercent : GoodIn wsL_setPercent wsX10_setPercent := goodIn_ca (goodIn_ca (goodIn_r _ [6, 7, 8, 9, 10, 11, 12, 13, 5, 14, 15, 16, 17, 18, 19, 20, 21, 22, 23, 24, 25, 26, 27, 28, 29, 30, 31, 32, 33, 34, 35, 36, 37, 38, 39, 40, 41, 42, 43, 44, 45, 46, 47, 48, 49, 50, 51, 52, 53, 54, 55, 56, 57, 58, 59, 60, 61, 62] (by decide +kernel) (by decide +kernel)) (goodIn_sub (fun _ h => List.mem_cons_of_mem _ (List.mem_append_left _ (List.mem_append_right _ h))) (by decide +kernel))) (goodIn_sub (fun _ h => List.mem_cons_of_mem _ (List.mem_append_right _ h)) (by decide +kernel))
set_option maxRecDepth 20000 in
theorem gL_setPercent_X10_setPercent : GoodIn wsL_setPercent (wsV RL 97 RX10 yX10_setPercent wsX10_setPercent) := goodIn_app (goodIn_of _ (by decide +kernel)) ggL_setPercent_X10_setPercent
theorem dL_setPercent_0 : decode cL_setPercent 0 = .ok (.aload_n 3, 1) := by decide +kernel
theorem dL_setPercent_1 : decode cL_setPercent 1 = .ok (.iconst 0, 1) := by decide +kernel
theorem dL_setPercent_2 : decode cL_setPercent 2 = .ok (.aload_n 0, 1) := by decide +kernel
theorem dL_setPercent_3 : decode cL_setPercent 3 = .ok (.iload_n 1, 1) := by decide +kernel
theorem dL_setPercent_4 : decode cL_setPercent 4 = .ok (.iload_n 2, 1) := by decide +kernel
theorem dL_setPercent_5 : decode cL_setPercent 5 = .ok (.invokevirtual 97, 3) := by decide +kernel
theorem dL_setPercent_8 : decode cL_setPercent 8 = .ok (.i2l, 1) := by decide +kernel
theorem dL_setPercent_9 : decode cL_setPercent 9 = .ok (.lastore, 1) := by decide +kernel
theorem dL_setPercent_10 : decode cL_setPercent 10 = .ok (.goto 11, 3) := by decide +kernel
theorem dL_setPercent_13 : decode cL_setPercent 13 = .ok (.astore 4, 2) := by decide +kernel
theorem dL_setPercent_15 : decode cL_setPercent 15 = .ok (.iconst 1, 1) := by decide +kernel
theorem dL_setPercent_16 : decode cL_setPercent 16 = .ok (.ireturn, 1) := by decide +kernel
theorem dL_setPercent_17 : decode cL_setPercent 17 = .ok (.astore 4, 2) := by decide +kernel
theorem dL_setPercent_19 : decode cL_setPercent 19 = .ok (.iconst 2, 1) := by decide +kernel
theorem dL_setPercent_20 : decode cL_setPercent 20 = .ok (.ireturn, 1) := by decide +kernel
theorem dL_setPercent_21 : decode cL_setPercent 21 = .ok (.iconst 0, 1) := by decide +kernel
theorem dL_setPercent_22 : decode cL_setPercent 22 = .ok (.ireturn, 1) := by decide +kernel
set_option maxRecDepth 20000 in
theorem ggL_markup_X10_markup : GoodIn wsL_markup wsX10_markup := goodIn_ca (goodIn_ca (goodIn_ca (goodIn_r _ [6, 7, 8, 9, 10, 11, 5, 12, 13, 14, 15, 16, 17, 18, 19, 20, 21, 22, 23, 24, 25, 26, 27, 28, 29, 30, 31, 32, 33, 34, 35, 36, 37, 38, 39, 40, 41, 42, 43, 44, 45, 46, 47, 48, 49, 50, 51, 52, 53, 54, 55, 56, 57, 58, 59, 60, 61, 62, 63, 64, 65, 66, 67, 68, 69, 70, 71, 72, 73, 74, 75, 76, 77, 78, 79, 80, 81, 82, 83, 84, 85, 86, 87, 88, 89, 90, 91, 92, 93, 94, 95, 96, 97, 98, 99, 100, 101, 102, 103, 104, 105, 106, 107, 108, 109, 110, 111, 112, 113, 114, 115, 116, 117, 118, 119, 120, 121, 122, 123, 124, 125, 126, 127, 128, 129, 130, 131, 132, 133, 134, 135, 136, 137, 138, 139, 140, 141, 142, 143, 144, 145, 146, 147, 148, 149, 150, 151, 152, 153, 154, 155, 156, 157, 158, 159, 160, 161, 162, 163, 164, 165, 166, 167, 168, 169, 170, 171, 172, 173, 174, 175, 176, 177, 178, 179, 180, 181, 182, 183, 184, 185, 186, 187, 188, 189, 190, 191, 192, 193, 194, 195, 196, 197, 198, 199, 200, 201, 202, 203, 204, 205, 206, 207, 208, 209, 210, 211, 212, 213, 214, 215, 216, 217] (by decide +kernel) (by decide +kernel)) (goodIn_sub (fun _ h => List.mem_cons_of_mem _ (List.mem_append_left _ (List.mem_append_left _ (List.mem_append_right _ h)))) (by decide +kernel))) (goodIn_sub (fun _ h => List.mem_cons_of_mem _ (List.mem_append_left _ (List.mem_append_right _ h))) (by decide +kernel))) (goodIn_sub (fun _ h => List.mem_cons_of_mem _ (List.mem_append_right _ h)) (by decide +kernel))
set_option maxRecDepth 20000 in
theorem gL_markup_X10_markup : GoodIn wsL_markup (wsV RL 100 RX10 yX10_markup wsX10_markup) := goodIn_app (goodIn_of _ (by decide +kernel)) ggL_markup_X10_markup
theorem dL_markup_0 : decode cL_markup 0 = .ok (.aload_n 2, 1) := by decide +kernel
theorem dL_markup_1 : decode cL_markup 1 = .ok (.iconst 0, 1) := by decide +kernel
theorem dL_markup_2 : decode cL_markup 2 = .ok (.aload_n 0, 1) := by decide +kernel
theorem dL_markup_3 : decode cL_markup 3 = .ok (.iload_n 1, 1) := by decide +kernel
theorem dL_markup_4 : decode cL_markup 4 = .ok (.invokevirtual 100, 3) := by decide +kernel
theorem dL_markup_7 : decode cL_markup 7 = .ok (.lastore, 1) := by decide +kernel
theorem dL_markup_8 : decode cL_markup 8 = .ok (.goto 6, 3) := by decide +kernel
theorem dL_markup_11 : decode cL_markup 11 = .ok (.astore_n 3, 1) := by decide +kernel
theorem dL_markup_12 : decode cL_markup 12 = .ok (.iconst 1, 1) := by decide +kernel
theorem dL_markup_13 : decode cL_markup 13 = .ok (.ireturn, 1) := by decide +kernel
theorem dL_markup_14 : decode cL_markup 14 = .ok (.iconst 0, 1) := by decide +kernel
theorem dL_markup_15 : decode cL_markup 15 = .ok (.ireturn, 1) := by decide +kernel
set_option maxRecDepth 20000 in
theorem ggL_amount_X10_amount : GoodIn wsL_amount wsX10_amount := goodIn_ca (goodIn_ca (goodIn_ca (goodIn_r _ [6, 7, 8, 9, 10, 11, 5, 12, 13, 14, 15, 16, 17, 18, 19, 20, 21, 22, 23, 24, 25, 26, 27, 28, 29, 30, 31, 32, 33, 34, 35, 36, 37, 38, 39, 40, 41, 42, 43, 44, 45, 46, 47, 48, 49, 50, 51, 52, 53, 54, 55, 56, 57, 58, 59, 60, 61, 62, 63, 64, 65, 66, 67, 68, 69, 70, 71, 72, 73, 74, 75, 76, 77, 78, 79, 80, 81, 82, 83, 84, 85, 86, 87, 88, 89, 90, 91, 92, 93, 94, 95, 96, 97, 98, 99, 100, 101, 102, 103, 104, 105, 106, 107, 108, 109, 110, 111, 112, 113, 114, 115, 116, 117, 118, 119, 120, 121, 122, 123, 124, 125, 126, 127, 128, 129, 130, 131, 132, 133, 134, 135, 136, 137, 138, 139, 140, 141, 142, 143, 144, 145, 146, 147, 148, 149, 150, 151, 152, 153, 154, 155, 156, 157, 158, 159, 160, 161, 162, 163, 164, 165, 166, 167, 168, 169, 170, 171, 172, 173, 174, 175, 176, 177, 178, 179, 180, 181, 182, 183, 184, 185, 186, 187, 188, 189, 190, 191, 192, 193, 194, 195, 196, 197, 198, 199, 200, 201, 202, 203, 204, 205, 206, 207, 208, 209, 210, 211, 212, 213, 214, 215, 216, 217] (by decide +kernel) (by decide +kernel)) (goodIn_sub (fun _ h => List.mem_cons_of_mem _ (List.mem_append_left _ (List.mem_append_left _ (List.mem_append_right _ h)))) (by decide +kernel))) (goodIn_sub (fun _ h => List.mem_cons_of_mem _ (List.mem_append_left _ (List.mem_append_right _ h))) (by decide +kernel))) (goodIn_sub (fun _ h => List.mem_cons_of_mem _ (List.mem_append_right _ h)) (by decide +kernel))
set_option maxRecDepth 20000 in
theorem gL_amount_X10_amount : GoodIn wsL_amount (wsV RL 103 RX10 yX10_amount wsX10_amount) := goodIn_app (goodIn_of _ (by decide +kernel)) ggL_amount_X10_amount
theorem dL_amount_0 : decode cL_amount 0 = .ok (.aload_n 2, 1) := by decide +kernel
theorem dL_amount_1 : decode cL_amount 1 = .ok (.iconst 0, 1) := by decide +kernel
theorem dL_amount_2 : decode cL_amount 2 = .ok (.aload_n 0, 1) := by decide +kernel
theorem dL_amount_3 : decode cL_amount 3 = .ok (.iload_n 1, 1) := by decide +kernel
theorem dL_amount_4 : decode cL_amount 4 = .ok (.invokevirtual 103, 3) := by decide +kernel
theorem dL_amount_7 : decode cL_amount 7 = .ok (.lastore, 1) := by decide +kernel
theorem dL_amount_8 : decode cL_amount 8 = .ok (.goto 6, 3) := by decide +kernel
theorem dL_amount_11 : decode cL_amount 11 = .ok (.astore_n 3, 1) := by decide +kernel
theorem dL_amount_12 : decode cL_amount 12 = .ok (.iconst 1, 1) := by decide +kernel
theorem dL_amount_13 : decode cL_amount 13 = .ok (.ireturn, 1) := by decide +kernel
theorem dL_amount_14 : decode cL_amount 14 = .ok (.iconst 0, 1) := by decide +kernel
theorem dL_amount_15 : decode cL_amount 15 = .ok (.ireturn, 1) := by decide +kernel
set_option maxRecDepth 20000 in
theorem ggL_amountByTree_X10_amountByTree : GoodIn wsL_amountByTree wsX10_amountByTree := goodIn_ca (goodIn_ca (goodIn_r _ [6, 7, 8, 9, 10, 11, 5, 12, 13, 14, 15, 16, 17, 18, 19, 20, 21, 22, 23, 24, 25, 26, 27, 28, 29, 30, 31, 32, 33, 34, 35, 36, 37, 38, 39, 40, 41, 42, 43, 44, 45, 46, 47, 48, 49, 50, 51, 52, 53, 54, 55, 56, 57, 58, 59, 60, 61, 62, 63, 64, 65, 66, 67, 68, 69, 70, 71, 72, 73, 74, 75, 76, 77, 78, 79, 80, 81, 82, 83, 84, 85, 86, 87, 88, 89, 90, 91, 92, 93, 94, 95, 96, 97, 98, 99, 100, 101, 102, 103, 104, 105, 106, 107, 108, 109, 110, 111, 112, 113, 114, 115, 116, 117, 118, 119, 120, 121, 122, 123, 124, 125, 126, 127, 128, 129, 130, 131, 132, 133, 134, 135, 136, 137, 138, 139, 140, 141, 142, 143, 144, 145, 146, 147, 148, 149] (by decide +kernel) (by decide +kernel)) (goodIn_sub (fun _ h => List.mem_cons_of_mem _ (List.mem_append_right _ h)) (by decide +kernel))) (goodIn_sub (fun _ h => List.mem_cons_of_mem _ (List.mem_append_left _ (List.mem_append_right _ h))) (by decide +kernel))
set_option maxRecDepth 20000 in
theorem gL_amountByTree_X10_amountByTree : GoodIn wsL_amountByTree (wsV RL 106 RX10 yX10_amountByTree wsX10_amountByTree) := goodIn_app (goodIn_of _ (by decide +kernel)) ggL_amountByTree_X10_amountByTree
theorem dL_amountByTree_0 : decode cL_amountByTree 0 = .ok (.aload_n 2, 1) := by decide +kernel
theorem dL_amountByTree_1 : decode cL_amountByTree 1 = .ok (.iconst 0, 1) := by decide +kernel
theorem dL_amountByTree_2 : decode cL_amountByTree 2 = .ok (.aload_n 0, 1) := by decide +kernel
theorem dL_amountByTree_3 : decode cL_amountByTree 3 = .ok (.iload_n 1, 1) := by decide +kernel
theorem dL_amountByTree_4 : decode cL_amountByTree 4 = .ok (.invokevirtual 106, 3) := by decide +kernel
theorem dL_amountByTree_7 : decode cL_amountByTree 7 = .ok (.lastore, 1) := by decide +kernel
theorem dL_amountByTree_8 : decode cL_amountByTree 8 = .ok (.goto 6, 3) := by decide +kernel
theorem dL_amountByTree_11 : decode cL_amountByTree 11 = .ok (.astore_n 3, 1) := by decide +kernel
theorem dL_amountByTree_12 : decode cL_amountByTree 12 = .ok (.iconst 1, 1) := by decide +kernel
theorem dL_amountByTree_13 : decode cL_amountByTree 13 = .ok (.ireturn, 1) := by decide +kernel
theorem dL_amountByTree_14 : decode cL_amountByTree 14 = .ok (.iconst 0, 1) := by decide +kernel
theorem dL_amountByTree_15 : decode cL_amountByTree 15 = .ok (.ireturn, 1) := by decide +kernel
set_option maxRecDepth 20000 in
theorem ggL_packs_X10_packs : GoodIn wsL_packs wsX10_packs := goodIn_ca (goodIn_ca (goodIn_ca (goodIn_r _ [6, 7, 8, 9, 10, 11, 5, 12, 13, 14, 15, 16, 17, 18, 19, 20, 21, 22, 23, 24, 25, 26, 27, 28, 29, 30, 31, 32, 33, 34, 35, 36, 37, 38, 39, 40, 41, 42, 43, 44, 45, 46, 47, 48, 49, 50, 51, 52, 53, 54, 55, 56, 57, 58, 59, 60, 61, 62, 63, 64, 65, 66, 67, 68, 69, 70, 71, 72, 73, 74, 75, 76, 77, 78, 79, 80, 81, 82, 83, 84, 85, 86, 87, 88, 89, 90, 91, 92, 93, 94, 95, 96, 97, 98, 99, 100, 101, 102, 103, 104, 105, 106, 107, 108, 109, 110, 111, 112, 113, 114, 115, 116, 117, 118, 119, 120, 121, 122, 123, 124, 125, 126, 127, 128, 129, 130, 131, 132, 133, 134, 135, 136, 137, 138, 139, 140, 141, 142, 143, 144, 145, 146, 147, 148, 149, 150, 151, 152, 153, 154, 155, 156, 157, 158, 159, 160, 161, 162, 163, 164, 165, 166, 167, 168, 169, 170, 171, 172, 173, 174, 175, 176, 177, 178, 179, 180, 181, 182, 183, 184, 185, 186, 187, 188, 189, 190, 191, 192, 193, 194, 195, 196, 197, 198, 199, 200, 201, 202, 203, 204, 205, 206, 207, 208, 209, 210, 211, 212, 213, 214, 215, 216, 217, 218] (by decide +kernel) (by decide +kernel)) (goodIn_sub (fun _ h => List.mem_cons_of_mem _ (List.mem_append_left _ (List.mem_append_right _ h))) (by decide +kernel))) (goodIn_sub (fun _ h => List.mem_cons_of_mem _ (List.mem_append_left _ (List.mem_append_left _ (List.mem_append_right _ h)))) (by decide +kernel))) (goodIn_sub (fun _ h => List.mem_cons_of_mem _ (List.mem_append_right _ h)) (by decide +kernel))
set_option maxRecDepth 20000 in
theorem gL_packs_X10_packs : GoodIn wsL_packs (wsV RL 109 RX10 yX10_packs wsX10_packs) := goodIn_app (goodIn_of _ (by decide +kernel)) ggL_packs_X10_packs
theorem dL_packs_0 : decode cL_packs 0 = .ok (.aload_n 2, 1) := by decide +kernel
theorem dL_packs_1 : decode cL_packs 1 = .ok (.iconst 0, 1) := by decide +kernel
theorem dL_packs_2 : decode cL_packs 2 = .ok (.aload_n 0, 1) := by decide +kernel
theorem dL_packs_3 : decode cL_packs 3 = .ok (.iload_n 1, 1) := by decide +kernel
theorem dL_packs_4 : decode cL_packs 4 = .ok (.invokevirtual 109, 3) := by decide +kernel
theorem dL_packs_7 : decode cL_packs 7 = .ok (.lastore, 1) := by decide +kernel
theorem dL_packs_8 : decode cL_packs 8 = .ok (.goto 6, 3) := by decide +kernel
theorem dL_packs_11 : decode cL_packs 11 = .ok (.astore_n 3, 1) := by decide +kernel
theorem dL_packs_12 : decode cL_packs 12 = .ok (.iconst 1, 1) := by decide +kernel
theorem dL_packs_13 : decode cL_packs 13 = .ok (.ireturn, 1) := by decide +kernel
theorem dL_packs_14 : decode cL_packs 14 = .ok (.iconst 0, 1) := by decide +kernel
theorem dL_packs_15 : decode cL_packs 15 = .ok (.ireturn, 1) := by decide +kernel
set_option maxRecDepth 20000 in
theorem ggL_costOfLine_X10_costOfLine : GoodIn wsL_costOfLine wsX10_costOfLine := goodIn_ca (goodIn_ca (goodIn_ca (goodIn_r _ [6, 7, 8, 9, 10, 11, 5, 12, 13, 14, 15, 16, 17, 18, 19, 20, 21, 22, 23, 24, 25, 26, 27, 28, 29, 30, 31, 32, 33, 34, 35, 36, 37, 38, 39, 40, 41, 42, 43, 44, 45, 46, 47, 48, 49, 50, 51, 52, 53, 54, 55, 56, 57, 58, 59, 60, 61, 62, 63, 64, 65, 66, 67, 68, 69, 70, 71, 72, 73, 74, 75, 76, 77, 78, 79, 80, 81, 82, 83, 84, 85, 86, 87, 88, 89, 90, 91, 92, 93, 94, 95, 96, 97, 98, 99, 100, 101, 102, 103, 104, 105, 106, 107, 108, 109, 110, 111, 112, 113, 114, 115, 116, 117, 118, 119, 120, 121, 122, 123, 124, 125, 126, 127, 128, 129, 130, 131, 132, 133, 134, 135, 136, 137, 138, 139, 140, 141, 142, 143, 144, 145, 146, 147, 148, 149, 150, 151, 152, 153, 154, 155, 156, 157, 158, 159, 160, 161, 162, 163, 164, 165, 166, 167, 168, 169, 170, 171, 172, 173, 174, 175, 176, 177, 178, 179, 180, 181, 182, 183, 184, 185, 186, 187, 188, 189, 190, 191, 192, 193, 194, 195, 196, 197, 198, 199, 200, 201, 202, 203, 204, 205, 206, 207, 208, 209, 210, 211, 212, 213, 214, 215, 216, 217, 218, 219, 220, 221, 222, 223, 224, 225] (by decide +kernel) (by decide +kernel)) (goodIn_sub (fun _ h => List.mem_cons_of_mem _ (List.mem_append_left _ (List.mem_append_right _ h))) (by decide +kernel))) (goodIn_sub (fun _ h => List.mem_cons_of_mem _ (List.mem_append_left _ (List.mem_append_left _ (List.mem_append_right _ h)))) (by decide +kernel))) (goodIn_sub (fun _ h => List.mem_cons_of_mem _ (List.mem_append_right _ h)) (by decide +kernel))
set_option maxRecDepth 20000 in
theorem gL_costOfLine_X10_costOfLine : GoodIn wsL_costOfLine (wsV RL 112 RX10 yX10_costOfLine wsX10_costOfLine) := goodIn_app (goodIn_of _ (by decide +kernel)) ggL_costOfLine_X10_costOfLine
theorem dL_costOfLine_0 : decode cL_costOfLine 0 = .ok (.aload_n 2, 1) := by decide +kernel
theorem dL_costOfLine_1 : decode cL_costOfLine 1 = .ok (.iconst 0, 1) := by decide +kernel
theorem dL_costOfLine_2 : decode cL_costOfLine 2 = .ok (.aload_n 0, 1) := by decide +kernel
theorem dL_costOfLine_3 : decode cL_costOfLine 3 = .ok (.iload_n 1, 1) := by decide +kernel
theorem dL_costOfLine_4 : decode cL_costOfLine 4 = .ok (.invokevirtual 112, 3) := by decide +kernel
theorem dL_costOfLine_7 : decode cL_costOfLine 7 = .ok (.lastore, 1) := by decide +kernel
theorem dL_costOfLine_8 : decode cL_costOfLine 8 = .ok (.goto 6, 3) := by decide +kernel
theorem dL_costOfLine_11 : decode cL_costOfLine 11 = .ok (.astore_n 3, 1) := by decide +kernel
theorem dL_costOfLine_12 : decode cL_costOfLine 12 = .ok (.iconst 1, 1) := by decide +kernel
theorem dL_costOfLine_13 : decode cL_costOfLine 13 = .ok (.ireturn, 1) := by decide +kernel
theorem dL_costOfLine_14 : decode cL_costOfLine 14 = .ok (.iconst 0, 1) := by decide +kernel
theorem dL_costOfLine_15 : decode cL_costOfLine 15 = .ok (.ireturn, 1) := by decide +kernel
set_option maxRecDepth 20000 in
theorem ggL_costOfTrade_X10_costOfTrade : GoodIn wsL_costOfTrade wsX10_costOfTrade := goodIn_ca (goodIn_ca (goodIn_ca (goodIn_r _ [6, 7, 8, 9, 10, 5, 11, 12, 13, 14, 15, 16, 17, 18, 19, 20, 21, 22, 23, 24, 25, 26, 27, 28, 29, 30, 31, 32, 33, 34, 35, 36, 37, 38, 39, 40, 41, 42, 43, 44, 45, 46, 47, 48, 49, 50, 51, 52, 53, 54, 55, 56, 57, 58, 59, 60, 61, 62, 63, 64, 65, 66, 67, 68, 69, 70, 71, 72, 73, 74, 75, 76, 77, 78, 79, 80, 81, 82, 83, 84, 85, 86, 87, 88, 89, 90, 91, 92, 93, 94, 95, 96, 97, 98, 99, 100, 101, 102, 103, 104, 105, 106, 107, 108, 109, 110, 111, 112, 113, 114, 115, 116, 117, 118, 119, 120, 121, 122, 123, 124, 125, 126, 127, 128, 129, 130, 131, 132, 133, 134, 135, 136, 137, 138, 139, 140, 141, 142, 143, 144, 145, 146, 147, 148, 149, 150, 151, 152, 153, 154, 155, 156, 157, 158, 159, 160, 161, 162, 163, 164, 165, 166, 167, 168, 169, 170, 171, 172, 173, 174, 175, 176, 177, 178, 179, 180, 181, 182, 183, 184, 185, 186, 187, 188, 189, 190, 191, 192, 193, 194, 195, 196, 197, 198, 199, 200, 201, 202, 203, 204, 205, 206, 207, 208, 209, 210, 211, 212, 213, 214, 215, 216, 217, 218, 219] (by decide +kernel) (by decide +kernel)) (goodIn_sub (fun _ h => List.mem_cons_of_mem _ (List.mem_append_left _ (List.mem_append_right _ h))) (by decide +kernel))) (goodIn_sub (fun _ h => List.mem_cons_of_mem _ (List.mem_append_left _ (List.mem_append_left _ (List.mem_append_right _ h)))) (by decide +kernel))) (goodIn_sub (fun _ h => List.mem_cons_of_mem _ (List.mem_append_right _ h)) (by decide +kernel))
set_option maxRecDepth 20000 in
theorem gL_costOfTrade_X10_costOfTrade : GoodIn wsL_costOfTrade (wsV RL 115 RX10 yX10_costOfTrade wsX10_costOfTrade) := goodIn_app (goodIn_of _ (by decide +kernel)) ggL_costOfTrade_X10_costOfTrade
theorem dL_costOfTrade_0 : decode cL_costOfTrade 0 = .ok (.aload_n 2, 1) := by decide +kernel
theorem dL_costOfTrade_1 : decode cL_costOfTrade 1 = .ok (.iconst 0, 1) := by decide +kernel
theorem dL_costOfTrade_2 : decode cL_costOfTrade 2 = .ok (.aload_n 0, 1) := by decide +kernel
theorem dL_costOfTrade_3 : decode cL_costOfTrade 3 = .ok (.iload_n 1, 1) := by decide +kernel
theorem dL_costOfTrade_4 : decode cL_costOfTrade 4 = .ok (.invokevirtual 115, 3) := by decide +kernel
theorem dL_costOfTrade_7 : decode cL_costOfTrade 7 = .ok (.lastore, 1) := by decide +kernel
theorem dL_costOfTrade_8 : decode cL_costOfTrade 8 = .ok (.goto 6, 3) := by decide +kernel
theorem dL_costOfTrade_11 : decode cL_costOfTrade 11 = .ok (.astore_n 3, 1) := by decide +kernel
theorem dL_costOfTrade_12 : decode cL_costOfTrade 12 = .ok (.iconst 1, 1) := by decide +kernel
theorem dL_costOfTrade_13 : decode cL_costOfTrade 13 = .ok (.ireturn, 1) := by decide +kernel
theorem dL_costOfTrade_14 : decode cL_costOfTrade 14 = .ok (.iconst 0, 1) := by decide +kernel
theorem dL_costOfTrade_15 : decode cL_costOfTrade 15 = .ok (.ireturn, 1) := by decide +kernel
set_option maxRecDepth 20000 in
theorem ggL_costOfKind_X10_costOfKind : GoodIn wsL_costOfKind wsX10_costOfKind := goodIn_ca (goodIn_ca (goodIn_ca (goodIn_r _ [6, 7, 8, 9, 10, 5, 11, 12, 13, 14, 15, 16, 17, 18, 19, 20, 21, 22, 23, 24, 25, 26, 27, 28, 29, 30, 31, 32, 33, 34, 35, 36, 37, 38, 39, 40, 41, 42, 43, 44, 45, 46, 47, 48, 49, 50, 51, 52, 53, 54, 55, 56, 57, 58, 59, 60, 61, 62, 63, 64, 65, 66, 67, 68, 69, 70, 71, 72, 73, 74, 75, 76, 77, 78, 79, 80, 81, 82, 83, 84, 85, 86, 87, 88, 89, 90, 91, 92, 93, 94, 95, 96, 97, 98, 99, 100, 101, 102, 103, 104, 105, 106, 107, 108, 109, 110, 111, 112, 113, 114, 115, 116, 117, 118, 119, 120, 121, 122, 123, 124, 125, 126, 127, 128, 129, 130, 131, 132, 133, 134, 135, 136, 137, 138, 139, 140, 141, 142, 143, 144, 145, 146, 147, 148, 149, 150, 151, 152, 153, 154, 155, 156, 157, 158, 159, 160, 161, 162, 163, 164, 165, 166, 167, 168, 169, 170, 171, 172, 173, 174, 175, 176, 177, 178, 179, 180, 181, 182, 183, 184, 185, 186, 187, 188, 189, 190, 191, 192, 193, 194, 195, 196, 197, 198, 199, 200, 201, 202, 203, 204, 205, 206, 207, 208, 209, 210, 211] (by decide +kernel) (by decide +kernel)) (goodIn_sub (fun _ h => List.mem_cons_of_mem _ (List.mem_append_left _ (List.mem_append_right _ h))) (by decide +kernel))) (goodIn_sub (fun _ h => List.mem_cons_of_mem _ (List.mem_append_left _ (List.mem_append_left _ (List.mem_append_right _ h)))) (by decide +kernel))) (goodIn_sub (fun _ h => List.mem_cons_of_mem _ (List.mem_append_right _ h)) (by decide +kernel))
set_option maxRecDepth 20000 in
theorem gL_costOfKind_X10_costOfKind : GoodIn wsL_costOfKind (wsV RL 118 RX10 yX10_costOfKind wsX10_costOfKind) := goodIn_app (goodIn_of _ (by decide +kernel)) ggL_costOfKind_X10_costOfKind
theorem dL_costOfKind_0 : decode cL_costOfKind 0 = .ok (.aload_n 2, 1) := by decide +kernel
theorem dL_costOfKind_1 : decode cL_costOfKind 1 = .ok (.iconst 0, 1) := by decide +kernel
theorem dL_costOfKind_2 : decode cL_costOfKind 2 = .ok (.aload_n 0, 1) := by decide +kernel
theorem dL_costOfKind_3 : decode cL_costOfKind 3 = .ok (.iload_n 1, 1) := by decide +kernel
theorem dL_costOfKind_4 : decode cL_costOfKind 4 = .ok (.invokevirtual 118, 3) := by decide +kernel
theorem dL_costOfKind_7 : decode cL_costOfKind 7 = .ok (.lastore, 1) := by decide +kernel
theorem dL_costOfKind_8 : decode cL_costOfKind 8 = .ok (.goto 6, 3) := by decide +kernel
theorem dL_costOfKind_11 : decode cL_costOfKind 11 = .ok (.astore_n 3, 1) := by decide +kernel
theorem dL_costOfKind_12 : decode cL_costOfKind 12 = .ok (.iconst 1, 1) := by decide +kernel
theorem dL_costOfKind_13 : decode cL_costOfKind 13 = .ok (.ireturn, 1) := by decide +kernel
theorem dL_costOfKind_14 : decode cL_costOfKind 14 = .ok (.iconst 0, 1) := by decide +kernel
theorem dL_costOfKind_15 : decode cL_costOfKind 15 = .ok (.ireturn, 1) := by decide +kernel
set_option maxRecDepth 20000 in
theorem ggL_dearest_X10_dearest : GoodIn wsL_dearest wsX10_dearest := goodIn_ca (goodIn_ca (goodIn_ca (goodIn_r _ [6, 7, 8, 9, 10, 11, 12, 13, 14, 15, 5, 16, 17, 18, 19, 20, 21, 22, 23, 24, 25, 26, 27, 28, 29, 30, 31, 32, 33, 34, 35, 36, 37, 38, 39, 40, 41, 42, 43, 44, 45, 46, 47, 48, 49, 50, 51, 52, 53, 54, 55, 56, 57, 58, 59, 60, 61, 62, 63, 64, 65, 66, 67, 68, 69, 70, 71, 72, 73, 74, 75, 76, 77, 78, 79, 80, 81, 82, 83, 84, 85, 86, 87, 88, 89, 90, 91, 92, 93, 94, 95, 96, 97, 98, 99, 100, 101, 102, 103, 104, 105, 106, 107, 108, 109, 110, 111, 112, 113, 114, 115, 116, 117, 118, 119, 120, 121, 122, 123, 124, 125, 126, 127, 128, 129, 130, 131, 132, 133, 134, 135, 136, 137, 138, 139, 140, 141, 142, 143, 144, 145, 146, 147, 148, 149, 150, 151, 152, 153, 154, 155, 156, 157, 158, 159, 160, 161, 162, 163, 164, 165, 166, 167, 168, 169, 170, 171, 172, 173, 174, 175, 176, 177, 178, 179, 180, 181, 182, 183, 184, 185, 186, 187, 188, 189, 190, 191, 192, 193, 194, 195, 196, 197, 198, 199, 200, 201, 202, 203, 204, 205, 206, 207, 208, 209, 210, 211, 212, 213, 214, 215, 216, 217, 218, 219] (by decide +kernel) (by decide +kernel)) (goodIn_sub (fun _ h => List.mem_cons_of_mem _ (List.mem_append_left _ (List.mem_append_right _ h))) (by decide +kernel))) (goodIn_sub (fun _ h => List.mem_cons_of_mem _ (List.mem_append_left _ (List.mem_append_left _ (List.mem_append_right _ h)))) (by decide +kernel))) (goodIn_sub (fun _ h => List.mem_cons_of_mem _ (List.mem_append_right _ h)) (by decide +kernel))
set_option maxRecDepth 20000 in
theorem gL_dearest_X10_dearest : GoodIn wsL_dearest (wsV RL 121 RX10 yX10_dearest wsX10_dearest) := goodIn_app (goodIn_of _ (by decide +kernel)) ggL_dearest_X10_dearest
theorem dL_dearest_0 : decode cL_dearest 0 = .ok (.aload_n 2, 1) := by decide +kernel
theorem dL_dearest_1 : decode cL_dearest 1 = .ok (.iconst 0, 1) := by decide +kernel
theorem dL_dearest_2 : decode cL_dearest 2 = .ok (.aload_n 0, 1) := by decide +kernel
theorem dL_dearest_3 : decode cL_dearest 3 = .ok (.iload_n 1, 1) := by decide +kernel
theorem dL_dearest_4 : decode cL_dearest 4 = .ok (.invokevirtual 121, 3) := by decide +kernel
theorem dL_dearest_7 : decode cL_dearest 7 = .ok (.i2l, 1) := by decide +kernel
theorem dL_dearest_8 : decode cL_dearest 8 = .ok (.lastore, 1) := by decide +kernel
theorem dL_dearest_9 : decode cL_dearest 9 = .ok (.goto 6, 3) := by decide +kernel
theorem dL_dearest_12 : decode cL_dearest 12 = .ok (.astore_n 3, 1) := by decide +kernel
theorem dL_dearest_13 : decode cL_dearest 13 = .ok (.iconst 1, 1) := by decide +kernel
theorem dL_dearest_14 : decode cL_dearest 14 = .ok (.ireturn, 1) := by decide +kernel
theorem dL_dearest_15 : decode cL_dearest 15 = .ok (.iconst 0, 1) := by decide +kernel
theorem dL_dearest_16 : decode cL_dearest 16 = .ok (.ireturn, 1) := by decide +kernel
set_option maxRecDepth 20000 in
theorem ggL_share_X10_share : GoodIn wsL_share wsX10_share := goodIn_ca (goodIn_ca (goodIn_ca (goodIn_ca (goodIn_r _ [6, 7, 8, 9, 10, 5, 11, 12, 13, 14, 15, 16, 17, 18, 19, 20, 21, 22, 23, 24, 25, 26, 27, 28, 29, 30, 31, 32, 33, 34, 35, 36, 37, 38, 39, 40, 41, 42, 43, 44, 45, 46, 47, 48, 49, 50, 51, 52, 53, 54, 55, 56, 57, 58, 59, 60, 61, 62, 63, 64, 65, 66, 67, 68, 69, 70, 71, 72, 73, 74, 75, 76, 77, 78, 79, 80, 81, 82, 83, 84, 85, 86, 87, 88, 89, 90, 91, 92, 93, 94, 95, 96, 97, 98, 99, 100, 101, 102, 103, 104, 105, 106, 107, 108, 109, 110, 111, 112, 113, 114, 115, 116, 117, 118, 119, 120, 121, 122, 123, 124, 125, 126, 127, 128, 129, 130, 131, 132, 133, 134, 135, 136, 137, 138, 139, 140, 141, 142, 143, 144, 145, 146, 147, 148, 149, 150, 151, 152, 153, 154, 155, 156, 157, 158, 159, 160, 161, 162, 163, 164, 165, 166, 167, 168, 169, 170, 171, 172, 173, 174, 175, 176, 177, 178, 179, 180, 181, 182, 183, 184, 185, 186, 187, 188, 189, 190, 191, 192, 193, 194, 195, 196, 197, 198, 199, 200, 201, 202, 203, 204, 205, 206, 207, 208, 209, 210, 211, 212, 213, 214, 215, 216, 217, 218, 219, 220, 221, 222, 223, 224] (by decide +kernel) (by decide +kernel)) (goodIn_sub (fun _ h => List.mem_cons_of_mem _ (List.mem_append_left _ (List.mem_append_left _ (List.mem_append_right _ h)))) (by decide +kernel))) (goodIn_sub (fun _ h => List.mem_cons_of_mem _ (List.mem_append_left _ (List.mem_append_left _ (List.mem_append_left _ (List.mem_append_right _ h))))) (by decide +kernel))) (goodIn_sub (fun _ h => List.mem_cons_of_mem _ (List.mem_append_left _ (List.mem_append_right _ h))) (by decide +kernel))) (goodIn_sub (fun _ h => List.mem_cons_of_mem _ (List.mem_append_right _ h)) (by decide +kernel))
set_option maxRecDepth 20000 in
theorem gL_share_X10_share : GoodIn wsL_share (wsV RL 126 RX10 yX10_share wsX10_share) := goodIn_app (goodIn_of _ (by decide +kernel)) ggL_share_X10_share
theorem dL_share_0 : decode cL_share 0 = .ok (.aload_n 2, 1) := by decide +kernel
theorem dL_share_1 : decode cL_share 1 = .ok (.iconst 0, 1) := by decide +kernel
theorem dL_share_2 : decode cL_share 2 = .ok (.aload_n 0, 1) := by decide +kernel
theorem dL_share_3 : decode cL_share 3 = .ok (.iload_n 1, 1) := by decide +kernel
theorem dL_share_4 : decode cL_share 4 = .ok (.invokevirtual 126, 3) := by decide +kernel
theorem dL_share_7 : decode cL_share 7 = .ok (.f2d, 1) := by decide +kernel
theorem dL_share_8 : decode cL_share 8 = .ok (.dastore, 1) := by decide +kernel
theorem dL_share_9 : decode cL_share 9 = .ok (.goto 9, 3) := by decide +kernel
theorem dL_share_12 : decode cL_share 12 = .ok (.astore_n 3, 1) := by decide +kernel
theorem dL_share_13 : decode cL_share 13 = .ok (.iconst 1, 1) := by decide +kernel
theorem dL_share_14 : decode cL_share 14 = .ok (.ireturn, 1) := by decide +kernel
theorem dL_share_15 : decode cL_share 15 = .ok (.astore_n 3, 1) := by decide +kernel
theorem dL_share_16 : decode cL_share 16 = .ok (.iconst 2, 1) := by decide +kernel
theorem dL_share_17 : decode cL_share 17 = .ok (.ireturn, 1) := by decide +kernel
theorem dL_share_18 : decode cL_share 18 = .ok (.iconst 0, 1) := by decide +kernel
theorem dL_share_19 : decode cL_share 19 = .ok (.ireturn, 1) := by decide +kernel
set_option maxRecDepth 20000 in
theorem ggL_factor_X10_factor : GoodIn wsL_factor wsX10_factor := goodIn_ca (goodIn_ca (goodIn_ca (goodIn_r _ [6, 7, 8, 9, 10, 11, 5, 12, 13, 14, 15, 16, 17, 18, 19, 20, 21, 22, 23, 24, 25, 26, 27, 28, 29, 30, 31, 32, 33, 34, 35, 36, 37, 38, 39, 40, 41, 42, 43, 44, 45, 46, 47, 48, 49, 50, 51, 52, 53, 54, 55, 56, 57, 58, 59, 60, 61, 62, 63, 64, 65, 66, 67, 68, 69, 70, 71, 72, 73, 74, 75, 76, 77, 78, 79, 80, 81, 82, 83, 84, 85, 86, 87, 88, 89, 90, 91, 92, 93, 94, 95, 96, 97, 98, 99, 100, 101, 102, 103, 104, 105, 106, 107, 108, 109, 110, 111, 112, 113, 114, 115, 116, 117, 118, 119, 120, 121, 122, 123, 124, 125, 126, 127, 128, 129, 130, 131, 132, 133, 134, 135, 136, 137, 138, 139, 140, 141, 142, 143, 144, 145, 146, 147, 148, 149, 150, 151, 152, 153, 154, 155, 156, 157, 158, 159, 160, 161, 162, 163, 164, 165, 166, 167, 168, 169, 170, 171, 172, 173, 174, 175, 176, 177, 178, 179, 180, 181, 182, 183, 184, 185, 186, 187, 188, 189, 190, 191, 192, 193, 194, 195, 196, 197, 198, 199, 200, 201, 202, 203, 204, 205, 206, 207, 208, 209, 210, 211, 212, 213, 214, 215, 216, 217, 218, 219, 220, 221, 222, 223] (by decide +kernel) (by decide +kernel)) (goodIn_sub (fun _ h => List.mem_cons_of_mem _ (List.mem_append_left _ (List.mem_append_left _ (List.mem_append_right _ h)))) (by decide +kernel))) (goodIn_sub (fun _ h => List.mem_cons_of_mem _ (List.mem_append_left _ (List.mem_append_right _ h))) (by decide +kernel))) (goodIn_sub (fun _ h => List.mem_cons_of_mem _ (List.mem_append_right _ h)) (by decide +kernel))
set_option maxRecDepth 20000 in
theorem gL_factor_X10_factor : GoodIn wsL_factor (wsV RL 130 RX10 yX10_factor wsX10_factor) := goodIn_app (goodIn_of _ (by decide +kernel)) ggL_factor_X10_factor
theorem dL_factor_0 : decode cL_factor 0 = .ok (.aload_n 1, 1) := by decide +kernel
theorem dL_factor_1 : decode cL_factor 1 = .ok (.iconst 0, 1) := by decide +kernel
theorem dL_factor_2 : decode cL_factor 2 = .ok (.aload_n 0, 1) := by decide +kernel
theorem dL_factor_3 : decode cL_factor 3 = .ok (.invokevirtual 130, 3) := by decide +kernel
theorem dL_factor_6 : decode cL_factor 6 = .ok (.dastore, 1) := by decide +kernel
theorem dL_factor_7 : decode cL_factor 7 = .ok (.goto 6, 3) := by decide +kernel
theorem dL_factor_10 : decode cL_factor 10 = .ok (.astore_n 2, 1) := by decide +kernel
theorem dL_factor_11 : decode cL_factor 11 = .ok (.iconst 1, 1) := by decide +kernel
theorem dL_factor_12 : decode cL_factor 12 = .ok (.ireturn, 1) := by decide +kernel
theorem dL_factor_13 : decode cL_factor 13 = .ok (.iconst 0, 1) := by decide +kernel
theorem dL_factor_14 : decode cL_factor 14 = .ok (.ireturn, 1) := by decide +kernel

set_option maxRecDepth 20000 in
theorem ggX10_init_X6_init : GoodIn wsX10_init wsX6_init := goodIn_r _ [14, 15, 2, 3, 16, 17, 18, 19, 20, 21, 22, 23, 24, 25, 26, 27, 28, 29, 30, 31, 32, 33, 34, 35, 36, 37, 38, 39, 40, 76, 77, 78, 57, 58, 59, 60, 61, 62, 63] (by decide +kernel) (by decide +kernel)
set_option maxRecDepth 20000 in
theorem gX10_init_X6_init_n9 : GoodIn wsX10_init (wsX6_init) := ggX10_init_X6_init
set_option maxRecDepth 20000 in
theorem ggX10_init_X2_init : GoodIn wsX10_init wsX2_init := goodIn_r _ [43, 44, 2, 3, 45, 46, 47, 48, 49, 50, 51, 52, 53, 54, 55, 56, 67, 68, 69, 70, 71, 72, 73, 74, 75] (by decide +kernel) (by decide +kernel)
set_option maxRecDepth 20000 in
theorem gX10_init_X2_init : GoodIn wsX10_init (wsX2_init) := ggX10_init_X2_init
theorem dX10_init_0 : decode cX10_init 0 = .ok (.aload_n 0, 1) := by decide +kernel
theorem dX10_init_1 : decode cX10_init 1 = .ok (.invokespecial 1, 3) := by decide +kernel
theorem dX10_init_4 : decode cX10_init 4 = .ok (.new 7, 3) := by decide +kernel
theorem dX10_init_7 : decode cX10_init 7 = .ok (.dup, 1) := by decide +kernel
theorem dX10_init_8 : decode cX10_init 8 = .ok (.invokespecial 9, 3) := by decide +kernel
theorem dX10_init_11 : decode cX10_init 11 = .ok (.astore_n 1, 1) := by decide +kernel
theorem dX10_init_12 : decode cX10_init 12 = .ok (.aload_n 0, 1) := by decide +kernel
theorem dX10_init_13 : decode cX10_init 13 = .ok (.aload_n 1, 1) := by decide +kernel
theorem dX10_init_14 : decode cX10_init 14 = .ok (.putfield 10, 3) := by decide +kernel
theorem dX10_init_17 : decode cX10_init 17 = .ok (.aload_n 0, 1) := by decide +kernel
theorem dX10_init_18 : decode cX10_init 18 = .ok (.new 16, 3) := by decide +kernel
theorem dX10_init_21 : decode cX10_init 21 = .ok (.dup, 1) := by decide +kernel
theorem dX10_init_22 : decode cX10_init 22 = .ok (.aload_n 1, 1) := by decide +kernel
theorem dX10_init_23 : decode cX10_init 23 = .ok (.invokespecial 18, 3) := by decide +kernel
theorem dX10_init_26 : decode cX10_init 26 = .ok (.putfield 21, 3) := by decide +kernel
theorem dX10_init_29 : decode cX10_init 29 = .ok (.aload_n 0, 1) := by decide +kernel
theorem dX10_init_30 : decode cX10_init 30 = .ok (.iconst 0, 1) := by decide +kernel
theorem dX10_init_31 : decode cX10_init 31 = .ok (.putfield 25, 3) := by decide +kernel
theorem dX10_init_34 : decode cX10_init 34 = .ok (.return_, 1) := by decide +kernel
set_option maxRecDepth 20000 in
theorem ggX10_addResource_X10_checkKind : GoodIn wsX10_addResource wsX10_checkKind := goodIn_ca (goodIn_r _ [9, 10, 11] (by decide +kernel) (by decide +kernel)) (goodIn_sub (fun _ h => List.mem_cons_of_mem _ (List.mem_append_left _ (List.mem_append_right _ h))) (by decide +kernel))
set_option maxRecDepth 20000 in
theorem gX10_addResource_X10_checkKind : GoodIn wsX10_addResource (va_wsS RX10 29 yX10_checkKind wsX10_checkKind) := goodIn_app (goodIn_of _ (by decide +kernel)) ggX10_addResource_X10_checkKind
set_option maxRecDepth 20000 in
theorem ggX10_addResource_X10_checkRange : GoodIn wsX10_addResource wsX10_checkRange := goodIn_ca (goodIn_r _ [14, 10, 11] (by decide +kernel) (by decide +kernel)) (goodIn_sub (fun _ h => List.mem_cons_of_mem _ (List.mem_append_left _ (List.mem_append_right _ h))) (by decide +kernel))
set_option maxRecDepth 20000 in
theorem gX10_addResource_X10_checkRange : GoodIn wsX10_addResource (va_wsS RX10 33 yX10_checkRange wsX10_checkRange) := goodIn_app (goodIn_of _ (by decide +kernel)) ggX10_addResource_X10_checkRange
set_option maxRecDepth 20000 in
theorem ggX10_addResource_Jx4a65c_size_8abf5 : GoodIn wsX10_addResource wsJx4a65c_size_8abf5 := goodIn_r _ [19, 20, 104, 105, 106] (by decide +kernel) (by decide +kernel)
set_option maxRecDepth 20000 in
theorem gX10_addResource_Jx4a65c_size_8abf5 : GoodIn wsX10_addResource (wsV RX10 41 RJx4a65c yJx4a65c_size_8abf5 wsJx4a65c_size_8abf5) := goodIn_app (goodIn_of _ (by decide +kernel)) ggX10_addResource_Jx4a65c_size_8abf5
set_option maxRecDepth 20000 in
theorem ggX10_addResource_X10_checkRoom : GoodIn wsX10_addResource wsX10_checkRoom := goodIn_ca (goodIn_r _ [23, 24, 25] (by decide +kernel) (by decide +kernel)) (goodIn_sub (fun _ h => List.mem_cons_of_mem _ (List.mem_append_right _ h)) (by decide +kernel))
set_option maxRecDepth 20000 in
theorem gX10_addResource_X10_checkRoom : GoodIn wsX10_addResource (va_wsS RX10 47 yX10_checkRoom wsX10_checkRoom) := goodIn_app (goodIn_of _ (by decide +kernel)) ggX10_addResource_X10_checkRoom
set_option maxRecDepth 20000 in
theorem ggX10_addResource_X7_init : GoodIn wsX10_addResource wsX7_init := goodIn_r _ [28, 29, 30, 31, 32, 33, 34, 35, 100, 101, 102, 103] (by decide +kernel) (by decide +kernel)
set_option maxRecDepth 20000 in
theorem gX10_addResource_X7_init : GoodIn wsX10_addResource (wsX7_init) := ggX10_addResource_X7_init
set_option maxRecDepth 20000 in
theorem ggX10_addResource_Jx4a65c_add_9ea2d : GoodIn wsX10_addResource wsJx4a65c_add_9ea2d := goodIn_r _ [39, 40, 41, 42, 20, 43, 44, 45, 18, 46, 47, 48, 49, 50, 51, 52, 53, 54, 55, 56, 57, 58, 59, 60, 61, 62, 63, 64, 65, 66, 67, 68, 69, 70, 71, 72, 73, 74, 75, 76, 77, 78, 79, 80, 81, 82, 83, 84, 85, 86, 87, 88, 89, 104, 105, 106] (by decide +kernel) (by decide +kernel)
set_option maxRecDepth 20000 in
theorem gX10_addResource_Jx4a65c_add_9ea2d : GoodIn wsX10_addResource (wsV RX10 56 RJx4a65c yJx4a65c_add_9ea2d wsJx4a65c_add_9ea2d) := goodIn_app (goodIn_of _ (by decide +kernel)) ggX10_addResource_Jx4a65c_add_9ea2d
theorem dX10_addResource_0 : decode cX10_addResource 0 = .ok (.iload_n 1, 1) := by decide +kernel
theorem dX10_addResource_1 : decode cX10_addResource 1 = .ok (.invokestatic 29, 3) := by decide +kernel
theorem dX10_addResource_4 : decode cX10_addResource 4 = .ok (.iload_n 2, 1) := by decide +kernel
theorem dX10_addResource_5 : decode cX10_addResource 5 = .ok (.iconst 0, 1) := by decide +kernel
theorem dX10_addResource_6 : decode cX10_addResource 6 = .ok (.sipush 9999, 3) := by decide +kernel
theorem dX10_addResource_9 : decode cX10_addResource 9 = .ok (.invokestatic 33, 3) := by decide +kernel
theorem dX10_addResource_12 : decode cX10_addResource 12 = .ok (.iload_n 3, 1) := by decide +kernel
theorem dX10_addResource_13 : decode cX10_addResource 13 = .ok (.iconst 0, 1) := by decide +kernel
theorem dX10_addResource_14 : decode cX10_addResource 14 = .ok (.bipush 50, 2) := by decide +kernel
theorem dX10_addResource_16 : decode cX10_addResource 16 = .ok (.invokestatic 33, 3) := by decide +kernel
theorem dX10_addResource_19 : decode cX10_addResource 19 = .ok (.iload 4, 2) := by decide +kernel
theorem dX10_addResource_21 : decode cX10_addResource 21 = .ok (.iconst 1, 1) := by decide +kernel
theorem dX10_addResource_22 : decode cX10_addResource 22 = .ok (.bipush 99, 2) := by decide +kernel
theorem dX10_addResource_24 : decode cX10_addResource 24 = .ok (.invokestatic 33, 3) := by decide +kernel
theorem dX10_addResource_27 : decode cX10_addResource 27 = .ok (.aload_n 0, 1) := by decide +kernel
theorem dX10_addResource_28 : decode cX10_addResource 28 = .ok (.getfield 10, 3) := by decide +kernel
theorem dX10_addResource_31 : decode cX10_addResource 31 = .ok (.getfield 37, 3) := by decide +kernel
theorem dX10_addResource_34 : decode cX10_addResource 34 = .ok (.invokevirtual 41, 3) := by decide +kernel
theorem dX10_addResource_37 : decode cX10_addResource 37 = .ok (.bipush 12, 2) := by decide +kernel
theorem dX10_addResource_39 : decode cX10_addResource 39 = .ok (.invokestatic 47, 3) := by decide +kernel
theorem dX10_addResource_42 : decode cX10_addResource 42 = .ok (.aload_n 0, 1) := by decide +kernel
theorem dX10_addResource_43 : decode cX10_addResource 43 = .ok (.getfield 10, 3) := by decide +kernel
theorem dX10_addResource_46 : decode cX10_addResource 46 = .ok (.getfield 37, 3) := by decide +kernel
theorem dX10_addResource_49 : decode cX10_addResource 49 = .ok (.new 51, 3) := by decide +kernel
theorem dX10_addResource_52 : decode cX10_addResource 52 = .ok (.dup, 1) := by decide +kernel
theorem dX10_addResource_53 : decode cX10_addResource 53 = .ok (.iload_n 1, 1) := by decide +kernel
theorem dX10_addResource_54 : decode cX10_addResource 54 = .ok (.iload_n 2, 1) := by decide +kernel
theorem dX10_addResource_55 : decode cX10_addResource 55 = .ok (.iload_n 3, 1) := by decide +kernel
theorem dX10_addResource_56 : decode cX10_addResource 56 = .ok (.iload 4, 2) := by decide +kernel
theorem dX10_addResource_58 : decode cX10_addResource 58 = .ok (.invokespecial 53, 3) := by decide +kernel
theorem dX10_addResource_61 : decode cX10_addResource 61 = .ok (.invokevirtual 56, 3) := by decide +kernel
theorem dX10_addResource_64 : decode cX10_addResource 64 = .ok (.pop, 1) := by decide +kernel
theorem dX10_addResource_65 : decode cX10_addResource 65 = .ok (.aload_n 0, 1) := by decide +kernel
theorem dX10_addResource_66 : decode cX10_addResource 66 = .ok (.getfield 10, 3) := by decide +kernel
theorem dX10_addResource_69 : decode cX10_addResource 69 = .ok (.getfield 37, 3) := by decide +kernel
theorem dX10_addResource_72 : decode cX10_addResource 72 = .ok (.invokevirtual 41, 3) := by decide +kernel
theorem dX10_addResource_75 : decode cX10_addResource 75 = .ok (.iconst 1, 1) := by decide +kernel
theorem dX10_addResource_76 : decode cX10_addResource 76 = .ok (.isub, 1) := by decide +kernel
theorem dX10_addResource_77 : decode cX10_addResource 77 = .ok (.ireturn, 1) := by decide +kernel
set_option maxRecDepth 20000 in
theorem ggX10_setPrice_X10_checkResource : GoodIn wsX10_setPrice wsX10_checkResource := goodIn_ca (goodIn_r _ [9, 10, 11, 1, 2, 12, 13, 14, 15, 16, 17, 18, 19, 8, 20, 43, 44, 45, 46, 47, 48, 49, 50, 51, 52, 57, 58, 59] (by decide +kernel) (by decide +kernel)) (goodIn_sub (fun _ h => List.mem_cons_of_mem _ (List.mem_append_left _ (List.mem_append_right _ h))) (by decide +kernel))
set_option maxRecDepth 20000 in
theorem gX10_setPrice_X10_checkResource : GoodIn wsX10_setPrice (wsV RX10 60 RX10 yX10_checkResource wsX10_checkResource) := goodIn_app (goodIn_of _ (by decide +kernel)) ggX10_setPrice_X10_checkResource
set_option maxRecDepth 20000 in
theorem ggX10_setPrice_X10_checkRange : GoodIn wsX10_setPrice wsX10_checkRange := goodIn_ca (goodIn_r _ [23, 24, 25] (by decide +kernel) (by decide +kernel)) (goodIn_sub (fun _ h => List.mem_cons_of_mem _ (List.mem_append_right _ h)) (by decide +kernel))
set_option maxRecDepth 20000 in
theorem gX10_setPrice_X10_checkRange : GoodIn wsX10_setPrice (va_wsS RX10 33 yX10_checkRange wsX10_checkRange) := goodIn_app (goodIn_of _ (by decide +kernel)) ggX10_setPrice_X10_checkRange
set_option maxRecDepth 20000 in
theorem ggX10_setPrice_Jx4a65c_get_915e3 : GoodIn wsX10_setPrice wsJx4a65c_get_915e3 := goodIn_r _ [29, 17, 30, 31, 32, 33, 34, 35, 36, 37, 38, 39, 40, 15, 41, 42, 57, 58, 59] (by decide +kernel) (by decide +kernel)
set_option maxRecDepth 20000 in
theorem gX10_setPrice_Jx4a65c_get_915e3 : GoodIn wsX10_setPrice (wsV RX10 63 RJx4a65c yJx4a65c_get_915e3 wsJx4a65c_get_915e3) := goodIn_app (goodIn_of _ (by decide +kernel)) ggX10_setPrice_Jx4a65c_get_915e3
theorem dX10_setPrice_0 : decode cX10_setPrice 0 = .ok (.aload_n 0, 1) := by decide +kernel
theorem dX10_setPrice_1 : decode cX10_setPrice 1 = .ok (.iload_n 1, 1) := by decide +kernel
theorem dX10_setPrice_2 : decode cX10_setPrice 2 = .ok (.invokevirtual 60, 3) := by decide +kernel
theorem dX10_setPrice_5 : decode cX10_setPrice 5 = .ok (.iload_n 2, 1) := by decide +kernel
theorem dX10_setPrice_6 : decode cX10_setPrice 6 = .ok (.iconst 0, 1) := by decide +kernel
theorem dX10_setPrice_7 : decode cX10_setPrice 7 = .ok (.sipush 9999, 3) := by decide +kernel
theorem dX10_setPrice_10 : decode cX10_setPrice 10 = .ok (.invokestatic 33, 3) := by decide +kernel
theorem dX10_setPrice_13 : decode cX10_setPrice 13 = .ok (.aload_n 0, 1) := by decide +kernel
theorem dX10_setPrice_14 : decode cX10_setPrice 14 = .ok (.getfield 10, 3) := by decide +kernel
theorem dX10_setPrice_17 : decode cX10_setPrice 17 = .ok (.getfield 37, 3) := by decide +kernel
theorem dX10_setPrice_20 : decode cX10_setPrice 20 = .ok (.iload_n 1, 1) := by decide +kernel
theorem dX10_setPrice_21 : decode cX10_setPrice 21 = .ok (.invokevirtual 63, 3) := by decide +kernel
theorem dX10_setPrice_24 : decode cX10_setPrice 24 = .ok (.checkcast 51, 3) := by decide +kernel
theorem dX10_setPrice_27 : decode cX10_setPrice 27 = .ok (.astore_n 3, 1) := by decide +kernel
theorem dX10_setPrice_28 : decode cX10_setPrice 28 = .ok (.aload_n 3, 1) := by decide +kernel
theorem dX10_setPrice_29 : decode cX10_setPrice 29 = .ok (.getfield 67, 3) := by decide +kernel
theorem dX10_setPrice_32 : decode cX10_setPrice 32 = .ok (.istore 4, 2) := by decide +kernel
theorem dX10_setPrice_34 : decode cX10_setPrice 34 = .ok (.aload_n 3, 1) := by decide +kernel
theorem dX10_setPrice_35 : decode cX10_setPrice 35 = .ok (.iload_n 2, 1) := by decide +kernel
theorem dX10_setPrice_36 : decode cX10_setPrice 36 = .ok (.putfield 67, 3) := by decide +kernel
theorem dX10_setPrice_39 : decode cX10_setPrice 39 = .ok (.iload 4, 2) := by decide +kernel
theorem dX10_setPrice_41 : decode cX10_setPrice 41 = .ok (.ireturn, 1) := by decide +kernel
set_option maxRecDepth 20000 in
theorem ggX10_addCrew_Jx4a65c_size_8abf5 : GoodIn wsX10_addCrew wsJx4a65c_size_8abf5 := goodIn_r _ [10, 11, 94, 95, 96] (by decide +kernel) (by decide +kernel)
set_option maxRecDepth 20000 in
theorem gX10_addCrew_Jx4a65c_size_8abf5 : GoodIn wsX10_addCrew (wsV RX10 41 RJx4a65c yJx4a65c_size_8abf5 wsJx4a65c_size_8abf5) := goodIn_app (goodIn_of _ (by decide +kernel)) ggX10_addCrew_Jx4a65c_size_8abf5
set_option maxRecDepth 20000 in
theorem ggX10_addCrew_X10_checkRoom : GoodIn wsX10_addCrew wsX10_checkRoom := goodIn_ca (goodIn_r _ [15, 16, 17] (by decide +kernel) (by decide +kernel)) (goodIn_sub (fun _ h => List.mem_cons_of_mem _ (List.mem_append_right _ h)) (by decide +kernel))
set_option maxRecDepth 20000 in
theorem gX10_addCrew_X10_checkRoom : GoodIn wsX10_addCrew (va_wsS RX10 47 yX10_checkRoom wsX10_checkRoom) := goodIn_app (goodIn_of _ (by decide +kernel)) ggX10_addCrew_X10_checkRoom
set_option maxRecDepth 20000 in
theorem ggX10_addCrew_X1_init : GoodIn wsX10_addCrew wsX1_init := goodIn_r _ [19, 20, 21, 22, 23, 24, 25, 26, 91, 92, 93] (by decide +kernel) (by decide +kernel)
set_option maxRecDepth 20000 in
theorem gX10_addCrew_X1_init_n75 : GoodIn wsX10_addCrew (wsX1_init) := ggX10_addCrew_X1_init
set_option maxRecDepth 20000 in
theorem ggX10_addCrew_Jx4a65c_add_9ea2d : GoodIn wsX10_addCrew wsJx4a65c_add_9ea2d := goodIn_r _ [30, 31, 32, 33, 11, 34, 35, 36, 9, 37, 38, 39, 40, 41, 42, 43, 44, 45, 46, 47, 48, 49, 50, 51, 52, 53, 54, 55, 56, 57, 58, 59, 60, 61, 62, 63, 64, 65, 66, 67, 68, 69, 70, 71, 72, 73, 74, 75, 76, 77, 78, 79, 80, 94, 95, 96] (by decide +kernel) (by decide +kernel)
set_option maxRecDepth 20000 in
theorem gX10_addCrew_Jx4a65c_add_9ea2d : GoodIn wsX10_addCrew (wsV RX10 56 RJx4a65c yJx4a65c_add_9ea2d wsJx4a65c_add_9ea2d) := goodIn_app (goodIn_of _ (by decide +kernel)) ggX10_addCrew_Jx4a65c_add_9ea2d
theorem dX10_addCrew_0 : decode cX10_addCrew 0 = .ok (.aload_n 0, 1) := by decide +kernel
theorem dX10_addCrew_1 : decode cX10_addCrew 1 = .ok (.getfield 10, 3) := by decide +kernel
theorem dX10_addCrew_4 : decode cX10_addCrew 4 = .ok (.getfield 70, 3) := by decide +kernel
theorem dX10_addCrew_7 : decode cX10_addCrew 7 = .ok (.invokevirtual 41, 3) := by decide +kernel
theorem dX10_addCrew_10 : decode cX10_addCrew 10 = .ok (.iconst 4, 1) := by decide +kernel
theorem dX10_addCrew_11 : decode cX10_addCrew 11 = .ok (.invokestatic 47, 3) := by decide +kernel
theorem dX10_addCrew_14 : decode cX10_addCrew 14 = .ok (.aload_n 0, 1) := by decide +kernel
theorem dX10_addCrew_15 : decode cX10_addCrew 15 = .ok (.getfield 10, 3) := by decide +kernel
theorem dX10_addCrew_18 : decode cX10_addCrew 18 = .ok (.getfield 70, 3) := by decide +kernel
theorem dX10_addCrew_21 : decode cX10_addCrew 21 = .ok (.new 73, 3) := by decide +kernel
theorem dX10_addCrew_24 : decode cX10_addCrew 24 = .ok (.dup, 1) := by decide +kernel
theorem dX10_addCrew_25 : decode cX10_addCrew 25 = .ok (.invokespecial 75, 3) := by decide +kernel
theorem dX10_addCrew_28 : decode cX10_addCrew 28 = .ok (.invokevirtual 56, 3) := by decide +kernel
theorem dX10_addCrew_31 : decode cX10_addCrew 31 = .ok (.pop, 1) := by decide +kernel
theorem dX10_addCrew_32 : decode cX10_addCrew 32 = .ok (.aload_n 0, 1) := by decide +kernel
theorem dX10_addCrew_33 : decode cX10_addCrew 33 = .ok (.getfield 10, 3) := by decide +kernel
theorem dX10_addCrew_36 : decode cX10_addCrew 36 = .ok (.getfield 70, 3) := by decide +kernel
theorem dX10_addCrew_39 : decode cX10_addCrew 39 = .ok (.invokevirtual 41, 3) := by decide +kernel
theorem dX10_addCrew_42 : decode cX10_addCrew 42 = .ok (.iconst 1, 1) := by decide +kernel
theorem dX10_addCrew_43 : decode cX10_addCrew 43 = .ok (.isub, 1) := by decide +kernel
theorem dX10_addCrew_44 : decode cX10_addCrew 44 = .ok (.ireturn, 1) := by decide +kernel
set_option maxRecDepth 20000 in
theorem ggX10_addMember_X10_checkCrew : GoodIn wsX10_addMember wsX10_checkCrew := goodIn_ca (goodIn_r _ [16, 17, 18, 5, 9, 19, 20, 21, 22, 23, 24, 25, 26, 15, 27, 69, 70, 71, 72, 73, 74, 75, 76, 77, 78, 86, 87, 88] (by decide +kernel) (by decide +kernel)) (goodIn_sub (fun _ h => List.mem_cons_of_mem _ (List.mem_append_left _ (List.mem_append_left _ (List.mem_append_right _ h)))) (by decide +kernel))
set_option maxRecDepth 20000 in
theorem gX10_addMember_X10_checkCrew : GoodIn wsX10_addMember (wsV RX10 76 RX10 yX10_checkCrew wsX10_checkCrew) := goodIn_app (goodIn_of _ (by decide +kernel)) ggX10_addMember_X10_checkCrew
set_option maxRecDepth 20000 in
theorem ggX10_addMember_X10_checkResource : GoodIn wsX10_addMember wsX10_checkResource := goodIn_ca (goodIn_r _ [31, 17, 18, 5, 6, 19, 20, 21, 22, 23, 24, 25, 26, 15, 27, 69, 70, 71, 72, 73, 74, 75, 76, 77, 78, 86, 87, 88] (by decide +kernel) (by decide +kernel)) (goodIn_sub (fun _ h => List.mem_cons_of_mem _ (List.mem_append_left _ (List.mem_append_left _ (List.mem_append_right _ h)))) (by decide +kernel))
set_option maxRecDepth 20000 in
theorem gX10_addMember_X10_checkResource : GoodIn wsX10_addMember (wsV RX10 60 RX10 yX10_checkResource wsX10_checkResource) := goodIn_app (goodIn_of _ (by decide +kernel)) ggX10_addMember_X10_checkResource
set_option maxRecDepth 20000 in
theorem ggX10_addMember_X10_checkRange : GoodIn wsX10_addMember wsX10_checkRange := goodIn_ca (goodIn_r _ [34, 35, 36] (by decide +kernel) (by decide +kernel)) (goodIn_sub (fun _ h => List.mem_cons_of_mem _ (List.mem_append_left _ (List.mem_append_right _ h))) (by decide +kernel))
set_option maxRecDepth 20000 in
theorem gX10_addMember_X10_checkRange : GoodIn wsX10_addMember (va_wsS RX10 33 yX10_checkRange wsX10_checkRange) := goodIn_app (goodIn_of _ (by decide +kernel)) ggX10_addMember_X10_checkRange
set_option maxRecDepth 20000 in
theorem ggX10_addMember_Jx4a65c_get_915e3 : GoodIn wsX10_addMember wsJx4a65c_get_915e3 := goodIn_r _ [40, 24, 41, 42, 43, 44, 45, 46, 47, 48, 49, 50, 51, 22, 52, 53, 86, 87, 88] (by decide +kernel) (by decide +kernel)
set_option maxRecDepth 20000 in
theorem gX10_addMember_Jx4a65c_get_915e3 : GoodIn wsX10_addMember (wsV RX10 63 RJx4a65c yJx4a65c_get_915e3 wsJx4a65c_get_915e3) := goodIn_app (goodIn_of _ (by decide +kernel)) ggX10_addMember_Jx4a65c_get_915e3
set_option maxRecDepth 20000 in
theorem ggX10_addMember_X1_hasMember : GoodIn wsX10_addMember wsX1_hasMember := goodIn_ca (goodIn_r _ [58, 59, 60, 83, 84, 85] (by decide +kernel) (by decide +kernel)) (goodIn_sub (fun _ h => List.mem_cons_of_mem _ (List.mem_append_right _ h)) (by decide +kernel))
set_option maxRecDepth 20000 in
theorem gX10_addMember_X1_hasMember : GoodIn wsX10_addMember (wsV RX10 89 RX1 yX1_hasMember wsX1_hasMember) := goodIn_app (goodIn_of _ (by decide +kernel)) ggX10_addMember_X1_hasMember
set_option maxRecDepth 20000 in
theorem ggX10_addMember_X10_checkRoom : GoodIn wsX10_addMember wsX10_checkRoom := goodIn_ca (goodIn_r _ [63, 3, 4] (by decide +kernel) (by decide +kernel)) (goodIn_sub (fun _ h => List.mem_cons_of_mem _ (List.mem_append_left _ (List.mem_append_left _ (List.mem_append_left _ (List.mem_append_right _ h))))) (by decide +kernel))
set_option maxRecDepth 20000 in
theorem gX10_addMember_X10_checkRoom : GoodIn wsX10_addMember (va_wsS RX10 47 yX10_checkRoom wsX10_checkRoom) := goodIn_app (goodIn_of _ (by decide +kernel)) ggX10_addMember_X10_checkRoom
set_option maxRecDepth 20000 in
theorem ggX10_addMember_X1_join : GoodIn wsX10_addMember wsX1_join := goodIn_ca (goodIn_r _ [67, 60, 59, 68, 83, 84, 85] (by decide +kernel) (by decide +kernel)) (goodIn_sub (fun _ h => List.mem_cons_of_mem _ (List.mem_append_right _ h)) (by decide +kernel))
set_option maxRecDepth 20000 in
theorem gX10_addMember_X1_join : GoodIn wsX10_addMember (wsV RX10 100 RX1 yX1_join wsX1_join) := goodIn_app (goodIn_of _ (by decide +kernel)) ggX10_addMember_X1_join
theorem dX10_addMember_0 : decode cX10_addMember 0 = .ok (.aload_n 0, 1) := by decide +kernel
theorem dX10_addMember_1 : decode cX10_addMember 1 = .ok (.iload_n 1, 1) := by decide +kernel
theorem dX10_addMember_2 : decode cX10_addMember 2 = .ok (.invokevirtual 76, 3) := by decide +kernel
theorem dX10_addMember_5 : decode cX10_addMember 5 = .ok (.aload_n 0, 1) := by decide +kernel
theorem dX10_addMember_6 : decode cX10_addMember 6 = .ok (.iload_n 2, 1) := by decide +kernel
theorem dX10_addMember_7 : decode cX10_addMember 7 = .ok (.invokevirtual 60, 3) := by decide +kernel
theorem dX10_addMember_10 : decode cX10_addMember 10 = .ok (.iload_n 3, 1) := by decide +kernel
theorem dX10_addMember_11 : decode cX10_addMember 11 = .ok (.iconst 1, 1) := by decide +kernel
theorem dX10_addMember_12 : decode cX10_addMember 12 = .ok (.bipush 9, 2) := by decide +kernel
theorem dX10_addMember_14 : decode cX10_addMember 14 = .ok (.invokestatic 33, 3) := by decide +kernel
theorem dX10_addMember_17 : decode cX10_addMember 17 = .ok (.aload_n 0, 1) := by decide +kernel
theorem dX10_addMember_18 : decode cX10_addMember 18 = .ok (.getfield 10, 3) := by decide +kernel
theorem dX10_addMember_21 : decode cX10_addMember 21 = .ok (.getfield 37, 3) := by decide +kernel
theorem dX10_addMember_24 : decode cX10_addMember 24 = .ok (.iload_n 2, 1) := by decide +kernel
theorem dX10_addMember_25 : decode cX10_addMember 25 = .ok (.invokevirtual 63, 3) := by decide +kernel
theorem dX10_addMember_28 : decode cX10_addMember 28 = .ok (.checkcast 51, 3) := by decide +kernel
theorem dX10_addMember_31 : decode cX10_addMember 31 = .ok (.getfield 79, 3) := by decide +kernel
theorem dX10_addMember_34 : decode cX10_addMember 34 = .ok (.ifCond .ne 13, 3) := by decide +kernel
theorem dX10_addMember_37 : decode cX10_addMember 37 = .ok (.new 82, 3) := by decide +kernel
theorem dX10_addMember_40 : decode cX10_addMember 40 = .ok (.dup, 1) := by decide +kernel
theorem dX10_addMember_41 : decode cX10_addMember 41 = .ok (.ldc 84, 2) := by decide +kernel
theorem dX10_addMember_43 : decode cX10_addMember 43 = .ok (.invokespecial 86, 3) := by decide +kernel
theorem dX10_addMember_46 : decode cX10_addMember 46 = .ok (.athrow, 1) := by decide +kernel
theorem dX10_addMember_47 : decode cX10_addMember 47 = .ok (.aload_n 0, 1) := by decide +kernel
theorem dX10_addMember_48 : decode cX10_addMember 48 = .ok (.getfield 10, 3) := by decide +kernel
theorem dX10_addMember_51 : decode cX10_addMember 51 = .ok (.getfield 70, 3) := by decide +kernel
theorem dX10_addMember_54 : decode cX10_addMember 54 = .ok (.iload_n 1, 1) := by decide +kernel
theorem dX10_addMember_55 : decode cX10_addMember 55 = .ok (.invokevirtual 63, 3) := by decide +kernel
theorem dX10_addMember_58 : decode cX10_addMember 58 = .ok (.checkcast 73, 3) := by decide +kernel
theorem dX10_addMember_61 : decode cX10_addMember 61 = .ok (.astore 4, 2) := by decide +kernel
theorem dX10_addMember_63 : decode cX10_addMember 63 = .ok (.aload 4, 2) := by decide +kernel
theorem dX10_addMember_65 : decode cX10_addMember 65 = .ok (.iload_n 2, 1) := by decide +kernel
theorem dX10_addMember_66 : decode cX10_addMember 66 = .ok (.invokevirtual 89, 3) := by decide +kernel
theorem dX10_addMember_69 : decode cX10_addMember 69 = .ok (.ifCond .eq 13, 3) := by decide +kernel
theorem dX10_addMember_72 : decode cX10_addMember 72 = .ok (.new 93, 3) := by decide +kernel
theorem dX10_addMember_75 : decode cX10_addMember 75 = .ok (.dup, 1) := by decide +kernel
theorem dX10_addMember_76 : decode cX10_addMember 76 = .ok (.ldc 95, 2) := by decide +kernel
theorem dX10_addMember_78 : decode cX10_addMember 78 = .ok (.invokespecial 97, 3) := by decide +kernel
theorem dX10_addMember_81 : decode cX10_addMember 81 = .ok (.athrow, 1) := by decide +kernel
theorem dX10_addMember_82 : decode cX10_addMember 82 = .ok (.aload 4, 2) := by decide +kernel
theorem dX10_addMember_84 : decode cX10_addMember 84 = .ok (.getfield 98, 3) := by decide +kernel
theorem dX10_addMember_87 : decode cX10_addMember 87 = .ok (.iconst 3, 1) := by decide +kernel
theorem dX10_addMember_88 : decode cX10_addMember 88 = .ok (.invokestatic 47, 3) := by decide +kernel
theorem dX10_addMember_91 : decode cX10_addMember 91 = .ok (.aload 4, 2) := by decide +kernel
theorem dX10_addMember_93 : decode cX10_addMember 93 = .ok (.iload_n 2, 1) := by decide +kernel
theorem dX10_addMember_94 : decode cX10_addMember 94 = .ok (.iload_n 3, 1) := by decide +kernel
theorem dX10_addMember_95 : decode cX10_addMember 95 = .ok (.invokevirtual 100, 3) := by decide +kernel
theorem dX10_addMember_98 : decode cX10_addMember 98 = .ok (.aload 4, 2) := by decide +kernel
theorem dX10_addMember_100 : decode cX10_addMember 100 = .ok (.getfield 98, 3) := by decide +kernel
theorem dX10_addMember_103 : decode cX10_addMember 103 = .ok (.ireturn, 1) := by decide +kernel
set_option maxRecDepth 20000 in
theorem ggX10_addItem_X10_checkRange : GoodIn wsX10_addItem wsX10_checkRange := goodIn_ca (goodIn_r _ [9, 10, 11] (by decide +kernel) (by decide +kernel)) (goodIn_sub (fun _ h => List.mem_cons_of_mem _ (List.mem_append_left _ (List.mem_append_right _ h))) (by decide +kernel))
set_option maxRecDepth 20000 in
theorem gX10_addItem_X10_checkRange : GoodIn wsX10_addItem (va_wsS RX10 33 yX10_checkRange wsX10_checkRange) := goodIn_app (goodIn_of _ (by decide +kernel)) ggX10_addItem_X10_checkRange
set_option maxRecDepth 20000 in
theorem ggX10_addItem_Jx4a65c_size_8abf5 : GoodIn wsX10_addItem wsJx4a65c_size_8abf5 := goodIn_r _ [16, 17, 112, 113, 114] (by decide +kernel) (by decide +kernel)
set_option maxRecDepth 20000 in
theorem gX10_addItem_Jx4a65c_size_8abf5 : GoodIn wsX10_addItem (wsV RX10 41 RJx4a65c yJx4a65c_size_8abf5 wsJx4a65c_size_8abf5) := goodIn_app (goodIn_of _ (by decide +kernel)) ggX10_addItem_Jx4a65c_size_8abf5
set_option maxRecDepth 20000 in
theorem ggX10_addItem_X10_checkRoom : GoodIn wsX10_addItem wsX10_checkRoom := goodIn_ca (goodIn_r _ [20, 21, 22] (by decide +kernel) (by decide +kernel)) (goodIn_sub (fun _ h => List.mem_cons_of_mem _ (List.mem_append_right _ h)) (by decide +kernel))
set_option maxRecDepth 20000 in
theorem gX10_addItem_X10_checkRoom : GoodIn wsX10_addItem (va_wsS RX10 47 yX10_checkRoom wsX10_checkRoom) := goodIn_app (goodIn_of _ (by decide +kernel)) ggX10_addItem_X10_checkRoom
set_option maxRecDepth 20000 in
theorem ggX10_addItem_X3_init : GoodIn wsX10_addItem wsX3_init := goodIn_r _ [25, 26, 27, 28, 29, 30, 15, 31, 32, 33, 34, 35, 36, 37, 38, 39, 40, 41, 42, 43, 44, 45, 46, 47, 112, 113, 114, 110, 111] (by decide +kernel) (by decide +kernel)
set_option maxRecDepth 20000 in
theorem gX10_addItem_X3_init : GoodIn wsX10_addItem (wsX3_init) := ggX10_addItem_X3_init
set_option maxRecDepth 20000 in
theorem ggX10_addItem_Jx4a65c_add_9ea2d : GoodIn wsX10_addItem wsJx4a65c_add_9ea2d := goodIn_r _ [51, 52, 53, 37, 17, 54, 55, 56, 15, 57, 58, 59, 60, 61, 62, 63, 64, 65, 36, 66, 67, 68, 69, 70, 71, 72, 73, 74, 75, 76, 77, 78, 79, 80, 81, 82, 83, 84, 85, 86, 87, 88, 89, 90, 91, 92, 93, 94, 95, 96, 97, 98, 99, 112, 113, 114] (by decide +kernel) (by decide +kernel)
set_option maxRecDepth 20000 in
theorem gX10_addItem_Jx4a65c_add_9ea2d : GoodIn wsX10_addItem (wsV RX10 56 RJx4a65c yJx4a65c_add_9ea2d wsJx4a65c_add_9ea2d) := goodIn_app (goodIn_of _ (by decide +kernel)) ggX10_addItem_Jx4a65c_add_9ea2d
theorem dX10_addItem_0 : decode cX10_addItem 0 = .ok (.iload_n 1, 1) := by decide +kernel
theorem dX10_addItem_1 : decode cX10_addItem 1 = .ok (.iconst 0, 1) := by decide +kernel
theorem dX10_addItem_2 : decode cX10_addItem 2 = .ok (.iconst 5, 1) := by decide +kernel
theorem dX10_addItem_3 : decode cX10_addItem 3 = .ok (.invokestatic 33, 3) := by decide +kernel
theorem dX10_addItem_6 : decode cX10_addItem 6 = .ok (.aload_n 0, 1) := by decide +kernel
theorem dX10_addItem_7 : decode cX10_addItem 7 = .ok (.getfield 10, 3) := by decide +kernel
theorem dX10_addItem_10 : decode cX10_addItem 10 = .ok (.getfield 103, 3) := by decide +kernel
theorem dX10_addItem_13 : decode cX10_addItem 13 = .ok (.invokevirtual 41, 3) := by decide +kernel
theorem dX10_addItem_16 : decode cX10_addItem 16 = .ok (.bipush 12, 2) := by decide +kernel
theorem dX10_addItem_18 : decode cX10_addItem 18 = .ok (.invokestatic 47, 3) := by decide +kernel
theorem dX10_addItem_21 : decode cX10_addItem 21 = .ok (.aload_n 0, 1) := by decide +kernel
theorem dX10_addItem_22 : decode cX10_addItem 22 = .ok (.getfield 10, 3) := by decide +kernel
theorem dX10_addItem_25 : decode cX10_addItem 25 = .ok (.getfield 103, 3) := by decide +kernel
theorem dX10_addItem_28 : decode cX10_addItem 28 = .ok (.new 106, 3) := by decide +kernel
theorem dX10_addItem_31 : decode cX10_addItem 31 = .ok (.dup, 1) := by decide +kernel
theorem dX10_addItem_32 : decode cX10_addItem 32 = .ok (.iload_n 1, 1) := by decide +kernel
theorem dX10_addItem_33 : decode cX10_addItem 33 = .ok (.invokespecial 108, 3) := by decide +kernel
theorem dX10_addItem_36 : decode cX10_addItem 36 = .ok (.invokevirtual 56, 3) := by decide +kernel
theorem dX10_addItem_39 : decode cX10_addItem 39 = .ok (.pop, 1) := by decide +kernel
theorem dX10_addItem_40 : decode cX10_addItem 40 = .ok (.aload_n 0, 1) := by decide +kernel
theorem dX10_addItem_41 : decode cX10_addItem 41 = .ok (.getfield 10, 3) := by decide +kernel
theorem dX10_addItem_44 : decode cX10_addItem 44 = .ok (.getfield 103, 3) := by decide +kernel
theorem dX10_addItem_47 : decode cX10_addItem 47 = .ok (.invokevirtual 41, 3) := by decide +kernel
theorem dX10_addItem_50 : decode cX10_addItem 50 = .ok (.iconst 1, 1) := by decide +kernel
theorem dX10_addItem_51 : decode cX10_addItem 51 = .ok (.isub, 1) := by decide +kernel
theorem dX10_addItem_52 : decode cX10_addItem 52 = .ok (.ireturn, 1) := by decide +kernel
set_option maxRecDepth 20000 in
theorem ggX10_addPart_X10_checkItem : GoodIn wsX10_addPart wsX10_checkItem := goodIn_ca (goodIn_r _ [15, 16, 17, 8, 9, 18, 19, 20, 21, 22, 23, 24, 25, 14, 26, 188, 189, 190, 191, 192, 193, 194, 195, 196, 197, 207, 208, 209] (by decide +kernel) (by decide +kernel)) (goodIn_sub (fun _ h => List.mem_cons_of_mem _ (List.mem_append_left _ (List.mem_append_left _ (List.mem_append_right _ h)))) (by decide +kernel))
set_option maxRecDepth 20000 in
theorem gX10_addPart_X10_checkItem : GoodIn wsX10_addPart (wsV RX10 110 RX10 yX10_checkItem wsX10_checkItem) := goodIn_app (goodIn_of _ (by decide +kernel)) ggX10_addPart_X10_checkItem
set_option maxRecDepth 20000 in
theorem ggX10_addPart_X10_checkRange : GoodIn wsX10_addPart wsX10_checkRange := goodIn_ca (goodIn_r _ [29, 30, 31] (by decide +kernel) (by decide +kernel)) (goodIn_sub (fun _ h => List.mem_cons_of_mem _ (List.mem_append_left _ (List.mem_append_right _ h))) (by decide +kernel))
set_option maxRecDepth 20000 in
theorem gX10_addPart_X10_checkRange : GoodIn wsX10_addPart (va_wsS RX10 33 yX10_checkRange wsX10_checkRange) := goodIn_app (goodIn_of _ (by decide +kernel)) ggX10_addPart_X10_checkRange
set_option maxRecDepth 20000 in
theorem ggX10_addPart_X0_init : GoodIn wsX10_addPart wsX0_init := goodIn_r _ [34, 35, 36, 37, 38, 39, 40, 185, 186, 187] (by decide +kernel) (by decide +kernel)
set_option maxRecDepth 20000 in
theorem gX10_addPart_X0_init : GoodIn wsX10_addPart (wsX0_init) := ggX10_addPart_X0_init
set_option maxRecDepth 20000 in
theorem ggX10_addPart_X10_addComponent : GoodIn wsX10_addPart wsX10_addComponent := goodIn_ca (goodIn_r _ [44, 8, 9, 10, 45, 46, 47, 48, 21, 49, 23, 50, 51, 52, 53, 54, 55, 56, 57, 58, 59, 60, 61, 62, 18, 19, 20, 22, 63, 64, 14, 65, 66, 67, 68, 69, 70, 71, 72, 73, 74, 75, 76, 77, 78, 79, 80, 81, 82, 83, 84, 85, 86, 87, 88, 89, 90, 91, 92, 93, 94, 95, 96, 97, 98, 99, 100, 101, 102, 103, 104, 105, 106, 107, 108, 109, 110, 111, 112, 113, 114, 115, 116, 117, 118, 119, 120, 188, 189, 190, 191, 192, 193, 194, 195, 196, 197, 210, 211, 207, 208, 209] (by decide +kernel) (by decide +kernel)) (goodIn_sub (fun _ h => List.mem_cons_of_mem _ (List.mem_append_right _ h)) (by decide +kernel))
set_option maxRecDepth 20000 in
theorem gX10_addPart_X10_addComponent : GoodIn wsX10_addPart (wsV RX10 117 RX10 yX10_addComponent wsX10_addComponent) := goodIn_app (goodIn_of _ (by decide +kernel)) ggX10_addPart_X10_addComponent
set_option maxRecDepth 20000 in
theorem ggX10_addPart_X2_choose : GoodIn wsX10_addPart wsX2_choose := goodIn_ca (goodIn_r _ [125, 126, 127, 128, 129, 130, 131, 19, 20, 21, 22, 23, 132, 133, 134, 124, 135, 136, 137, 138, 139, 47, 48, 49, 50, 51, 52, 53, 54, 55, 56, 57, 58, 59, 60, 61, 62, 140, 14, 141, 142, 143, 144, 145, 146, 147, 148, 149, 150, 151, 152, 153, 103, 154, 155, 156, 157, 158, 159, 160, 161, 162, 163, 164, 88, 89, 90, 198, 199, 200, 201, 202, 203, 204, 205, 206, 191, 192, 193, 194, 195, 196, 197, 207, 208, 209, 212, 213, 210, 211, 185, 186, 187] (by decide +kernel) (by decide +kernel)) (goodIn_sub (fun _ h => List.mem_cons_of_mem _ (List.mem_append_left _ (List.mem_append_left _ (List.mem_append_left _ (List.mem_append_right _ h))))) (by decide +kernel))
set_option maxRecDepth 20000 in
theorem gX10_addPart_X2_choose : GoodIn wsX10_addPart (wsV RX10 121 RX2 yX2_choose wsX2_choose) := goodIn_app (goodIn_of _ (by decide +kernel)) ggX10_addPart_X2_choose
set_option maxRecDepth 20000 in
theorem ggX10_addPart_Jx4a65c_get_915e3 : GoodIn wsX10_addPart wsJx4a65c_get_915e3 := goodIn_r _ [49, 23, 50, 51, 52, 53, 54, 55, 56, 57, 58, 59, 60, 21, 61, 62, 207, 208, 209] (by decide +kernel) (by decide +kernel)
set_option maxRecDepth 20000 in
theorem gX10_addPart_Jx4a65c_get_915e3 : GoodIn wsX10_addPart (wsV RX10 63 RJx4a65c yJx4a65c_get_915e3 wsJx4a65c_get_915e3) := goodIn_app (goodIn_of _ (by decide +kernel)) ggX10_addPart_Jx4a65c_get_915e3
set_option maxRecDepth 20000 in
theorem ggX10_addPart_X3_dropLastComponent : GoodIn wsX10_addPart wsX3_dropLastComponent := goodIn_r _ [169, 170, 171, 172, 173, 21, 174, 23, 175, 19, 20, 22, 176, 177, 178, 179, 62, 50, 51, 52, 53, 54, 55, 56, 57, 180, 181, 182, 183, 72, 73, 184, 118, 119, 120, 210, 211, 207, 208, 209] (by decide +kernel) (by decide +kernel)
set_option maxRecDepth 20000 in
theorem gX10_addPart_X3_dropLastComponent : GoodIn wsX10_addPart (wsV RX10 124 RX3 yX3_dropLastComponent wsX3_dropLastComponent) := goodIn_app (goodIn_of _ (by decide +kernel)) ggX10_addPart_X3_dropLastComponent
theorem dX10_addPart_0 : decode cX10_addPart 0 = .ok (.aload_n 0, 1) := by decide +kernel
theorem dX10_addPart_1 : decode cX10_addPart 1 = .ok (.iload_n 1, 1) := by decide +kernel
theorem dX10_addPart_2 : decode cX10_addPart 2 = .ok (.invokevirtual 110, 3) := by decide +kernel
theorem dX10_addPart_5 : decode cX10_addPart 5 = .ok (.aload_n 0, 1) := by decide +kernel
theorem dX10_addPart_6 : decode cX10_addPart 6 = .ok (.iload_n 2, 1) := by decide +kernel
theorem dX10_addPart_7 : decode cX10_addPart 7 = .ok (.invokevirtual 110, 3) := by decide +kernel
theorem dX10_addPart_10 : decode cX10_addPart 10 = .ok (.iload_n 3, 1) := by decide +kernel
theorem dX10_addPart_11 : decode cX10_addPart 11 = .ok (.iconst 1, 1) := by decide +kernel
theorem dX10_addPart_12 : decode cX10_addPart 12 = .ok (.bipush 9, 2) := by decide +kernel
theorem dX10_addPart_14 : decode cX10_addPart 14 = .ok (.invokestatic 33, 3) := by decide +kernel
theorem dX10_addPart_17 : decode cX10_addPart 17 = .ok (.aload_n 0, 1) := by decide +kernel
theorem dX10_addPart_18 : decode cX10_addPart 18 = .ok (.iload_n 1, 1) := by decide +kernel
theorem dX10_addPart_19 : decode cX10_addPart 19 = .ok (.new 113, 3) := by decide +kernel
theorem dX10_addPart_22 : decode cX10_addPart 22 = .ok (.dup, 1) := by decide +kernel
theorem dX10_addPart_23 : decode cX10_addPart 23 = .ok (.iconst 0, 1) := by decide +kernel
theorem dX10_addPart_24 : decode cX10_addPart 24 = .ok (.iload_n 2, 1) := by decide +kernel
theorem dX10_addPart_25 : decode cX10_addPart 25 = .ok (.iload_n 3, 1) := by decide +kernel
theorem dX10_addPart_26 : decode cX10_addPart 26 = .ok (.invokespecial 115, 3) := by decide +kernel
theorem dX10_addPart_29 : decode cX10_addPart 29 = .ok (.invokevirtual 117, 3) := by decide +kernel
theorem dX10_addPart_32 : decode cX10_addPart 32 = .ok (.pop, 1) := by decide +kernel
theorem dX10_addPart_33 : decode cX10_addPart 33 = .ok (.aload_n 0, 1) := by decide +kernel
theorem dX10_addPart_34 : decode cX10_addPart 34 = .ok (.getfield 21, 3) := by decide +kernel
theorem dX10_addPart_37 : decode cX10_addPart 37 = .ok (.aload_n 0, 1) := by decide +kernel
theorem dX10_addPart_38 : decode cX10_addPart 38 = .ok (.getfield 25, 3) := by decide +kernel
theorem dX10_addPart_41 : decode cX10_addPart 41 = .ok (.invokevirtual 121, 3) := by decide +kernel
theorem dX10_addPart_44 : decode cX10_addPart 44 = .ok (.ifCond .ne 30, 3) := by decide +kernel
theorem dX10_addPart_47 : decode cX10_addPart 47 = .ok (.aload_n 0, 1) := by decide +kernel
theorem dX10_addPart_48 : decode cX10_addPart 48 = .ok (.getfield 10, 3) := by decide +kernel
theorem dX10_addPart_51 : decode cX10_addPart 51 = .ok (.getfield 103, 3) := by decide +kernel
theorem dX10_addPart_54 : decode cX10_addPart 54 = .ok (.iload_n 1, 1) := by decide +kernel
theorem dX10_addPart_55 : decode cX10_addPart 55 = .ok (.invokevirtual 63, 3) := by decide +kernel
theorem dX10_addPart_58 : decode cX10_addPart 58 = .ok (.checkcast 106, 3) := by decide +kernel
theorem dX10_addPart_61 : decode cX10_addPart 61 = .ok (.invokevirtual 124, 3) := by decide +kernel
theorem dX10_addPart_64 : decode cX10_addPart 64 = .ok (.new 82, 3) := by decide +kernel
theorem dX10_addPart_67 : decode cX10_addPart 67 = .ok (.dup, 1) := by decide +kernel
theorem dX10_addPart_68 : decode cX10_addPart 68 = .ok (.ldc 127, 2) := by decide +kernel
theorem dX10_addPart_70 : decode cX10_addPart 70 = .ok (.invokespecial 86, 3) := by decide +kernel
theorem dX10_addPart_73 : decode cX10_addPart 73 = .ok (.athrow, 1) := by decide +kernel
theorem dX10_addPart_74 : decode cX10_addPart 74 = .ok (.aload_n 0, 1) := by decide +kernel
theorem dX10_addPart_75 : decode cX10_addPart 75 = .ok (.getfield 21, 3) := by decide +kernel
theorem dX10_addPart_78 : decode cX10_addPart 78 = .ok (.getfield 129, 3) := by decide +kernel
theorem dX10_addPart_81 : decode cX10_addPart 81 = .ok (.iload_n 1, 1) := by decide +kernel
theorem dX10_addPart_82 : decode cX10_addPart 82 = .ok (.iaload, 1) := by decide +kernel
theorem dX10_addPart_83 : decode cX10_addPart 83 = .ok (.ireturn, 1) := by decide +kernel
set_option maxRecDepth 20000 in
theorem ggX10_addUse_X10_checkItem : GoodIn wsX10_addUse wsX10_checkItem := goodIn_ca (goodIn_r _ [8, 9, 10, 11, 12, 13, 14, 15, 16, 17, 18, 19, 20, 7, 21, 125, 126, 127, 128, 129, 130, 131, 132, 133, 134, 135, 136, 137] (by decide +kernel) (by decide +kernel)) (goodIn_sub (fun _ h => List.mem_cons_of_mem _ (List.mem_append_left _ (List.mem_append_left _ (List.mem_append_right _ h)))) (by decide +kernel))
set_option maxRecDepth 20000 in
theorem gX10_addUse_X10_checkItem : GoodIn wsX10_addUse (wsV RX10 110 RX10 yX10_checkItem wsX10_checkItem) := goodIn_app (goodIn_of _ (by decide +kernel)) ggX10_addUse_X10_checkItem
set_option maxRecDepth 20000 in
theorem ggX10_addUse_X10_checkResource : GoodIn wsX10_addUse wsX10_checkResource := goodIn_ca (goodIn_r _ [25, 9, 10, 11, 26, 13, 14, 15, 16, 17, 18, 19, 20, 7, 21, 125, 126, 127, 128, 129, 130, 131, 132, 133, 134, 135, 136, 137] (by decide +kernel) (by decide +kernel)) (goodIn_sub (fun _ h => List.mem_cons_of_mem _ (List.mem_append_left _ (List.mem_append_left _ (List.mem_append_right _ h)))) (by decide +kernel))
set_option maxRecDepth 20000 in
theorem gX10_addUse_X10_checkResource : GoodIn wsX10_addUse (wsV RX10 60 RX10 yX10_checkResource wsX10_checkResource) := goodIn_app (goodIn_of _ (by decide +kernel)) ggX10_addUse_X10_checkResource
set_option maxRecDepth 20000 in
theorem ggX10_addUse_X10_checkRange : GoodIn wsX10_addUse wsX10_checkRange := goodIn_ca (goodIn_r _ [29, 30, 31] (by decide +kernel) (by decide +kernel)) (goodIn_sub (fun _ h => List.mem_cons_of_mem _ (List.mem_append_left _ (List.mem_append_right _ h))) (by decide +kernel))
set_option maxRecDepth 20000 in
theorem gX10_addUse_X10_checkRange : GoodIn wsX10_addUse (va_wsS RX10 33 yX10_checkRange wsX10_checkRange) := goodIn_app (goodIn_of _ (by decide +kernel)) ggX10_addUse_X10_checkRange
set_option maxRecDepth 20000 in
theorem ggX10_addUse_X0_init : GoodIn wsX10_addUse wsX0_init := goodIn_r _ [34, 35, 36, 37, 38, 39, 40, 122, 123, 124] (by decide +kernel) (by decide +kernel)
set_option maxRecDepth 20000 in
theorem gX10_addUse_X0_init : GoodIn wsX10_addUse (wsX0_init) := ggX10_addUse_X0_init
set_option maxRecDepth 20000 in
theorem ggX10_addUse_X10_addComponent : GoodIn wsX10_addUse wsX10_addComponent := goodIn_ca (goodIn_r _ [44, 11, 12, 45, 46, 47, 48, 49, 16, 50, 18, 51, 52, 53, 54, 55, 56, 57, 58, 59, 60, 61, 62, 63, 13, 14, 15, 17, 64, 65, 7, 66, 67, 68, 69, 70, 71, 72, 73, 74, 75, 76, 77, 78, 79, 80, 81, 82, 83, 84, 85, 86, 87, 88, 89, 90, 91, 92, 93, 94, 95, 96, 97, 98, 99, 100, 101, 102, 103, 104, 105, 106, 107, 108, 109, 110, 111, 112, 113, 114, 115, 116, 117, 118, 119, 120, 121, 125, 126, 127, 128, 129, 130, 131, 132, 133, 134, 138, 139, 135, 136, 137] (by decide +kernel) (by decide +kernel)) (goodIn_sub (fun _ h => List.mem_cons_of_mem _ (List.mem_append_right _ h)) (by decide +kernel))
set_option maxRecDepth 20000 in
theorem gX10_addUse_X10_addComponent : GoodIn wsX10_addUse (wsV RX10 117 RX10 yX10_addComponent wsX10_addComponent) := goodIn_app (goodIn_of _ (by decide +kernel)) ggX10_addUse_X10_addComponent
theorem dX10_addUse_0 : decode cX10_addUse 0 = .ok (.aload_n 0, 1) := by decide +kernel
theorem dX10_addUse_1 : decode cX10_addUse 1 = .ok (.iload_n 1, 1) := by decide +kernel
theorem dX10_addUse_2 : decode cX10_addUse 2 = .ok (.invokevirtual 110, 3) := by decide +kernel
theorem dX10_addUse_5 : decode cX10_addUse 5 = .ok (.aload_n 0, 1) := by decide +kernel
theorem dX10_addUse_6 : decode cX10_addUse 6 = .ok (.iload_n 2, 1) := by decide +kernel
theorem dX10_addUse_7 : decode cX10_addUse 7 = .ok (.invokevirtual 60, 3) := by decide +kernel
theorem dX10_addUse_10 : decode cX10_addUse 10 = .ok (.iload_n 3, 1) := by decide +kernel
theorem dX10_addUse_11 : decode cX10_addUse 11 = .ok (.iconst 1, 1) := by decide +kernel
theorem dX10_addUse_12 : decode cX10_addUse 12 = .ok (.bipush 99, 2) := by decide +kernel
theorem dX10_addUse_14 : decode cX10_addUse 14 = .ok (.invokestatic 33, 3) := by decide +kernel
theorem dX10_addUse_17 : decode cX10_addUse 17 = .ok (.aload_n 0, 1) := by decide +kernel
theorem dX10_addUse_18 : decode cX10_addUse 18 = .ok (.iload_n 1, 1) := by decide +kernel
theorem dX10_addUse_19 : decode cX10_addUse 19 = .ok (.new 113, 3) := by decide +kernel
theorem dX10_addUse_22 : decode cX10_addUse 22 = .ok (.dup, 1) := by decide +kernel
theorem dX10_addUse_23 : decode cX10_addUse 23 = .ok (.iconst 1, 1) := by decide +kernel
theorem dX10_addUse_24 : decode cX10_addUse 24 = .ok (.iload_n 2, 1) := by decide +kernel
theorem dX10_addUse_25 : decode cX10_addUse 25 = .ok (.iload_n 3, 1) := by decide +kernel
theorem dX10_addUse_26 : decode cX10_addUse 26 = .ok (.invokespecial 115, 3) := by decide +kernel
theorem dX10_addUse_29 : decode cX10_addUse 29 = .ok (.invokevirtual 117, 3) := by decide +kernel
theorem dX10_addUse_32 : decode cX10_addUse 32 = .ok (.ireturn, 1) := by decide +kernel
set_option maxRecDepth 20000 in
theorem ggX10_addWork_X10_checkItem : GoodIn wsX10_addWork wsX10_checkItem := goodIn_ca (goodIn_r _ [8, 9, 10, 11, 12, 13, 14, 15, 16, 17, 18, 19, 20, 7, 21, 125, 126, 127, 128, 129, 130, 131, 132, 133, 134, 135, 136, 137] (by decide +kernel) (by decide +kernel)) (goodIn_sub (fun _ h => List.mem_cons_of_mem _ (List.mem_append_left _ (List.mem_append_left _ (List.mem_append_right _ h)))) (by decide +kernel))
set_option maxRecDepth 20000 in
theorem gX10_addWork_X10_checkItem : GoodIn wsX10_addWork (wsV RX10 110 RX10 yX10_checkItem wsX10_checkItem) := goodIn_app (goodIn_of _ (by decide +kernel)) ggX10_addWork_X10_checkItem
set_option maxRecDepth 20000 in
theorem ggX10_addWork_X10_checkCrew : GoodIn wsX10_addWork wsX10_checkCrew := goodIn_ca (goodIn_r _ [25, 9, 10, 11, 26, 13, 14, 15, 16, 17, 18, 19, 20, 7, 21, 125, 126, 127, 128, 129, 130, 131, 132, 133, 134, 135, 136, 137] (by decide +kernel) (by decide +kernel)) (goodIn_sub (fun _ h => List.mem_cons_of_mem _ (List.mem_append_left _ (List.mem_append_left _ (List.mem_append_right _ h)))) (by decide +kernel))
set_option maxRecDepth 20000 in
theorem gX10_addWork_X10_checkCrew : GoodIn wsX10_addWork (wsV RX10 76 RX10 yX10_checkCrew wsX10_checkCrew) := goodIn_app (goodIn_of _ (by decide +kernel)) ggX10_addWork_X10_checkCrew
set_option maxRecDepth 20000 in
theorem ggX10_addWork_X10_checkRange : GoodIn wsX10_addWork wsX10_checkRange := goodIn_ca (goodIn_r _ [29, 30, 31] (by decide +kernel) (by decide +kernel)) (goodIn_sub (fun _ h => List.mem_cons_of_mem _ (List.mem_append_left _ (List.mem_append_right _ h))) (by decide +kernel))
set_option maxRecDepth 20000 in
theorem gX10_addWork_X10_checkRange : GoodIn wsX10_addWork (va_wsS RX10 33 yX10_checkRange wsX10_checkRange) := goodIn_app (goodIn_of _ (by decide +kernel)) ggX10_addWork_X10_checkRange
set_option maxRecDepth 20000 in
theorem ggX10_addWork_X0_init : GoodIn wsX10_addWork wsX0_init := goodIn_r _ [34, 35, 36, 37, 38, 39, 40, 122, 123, 124] (by decide +kernel) (by decide +kernel)
set_option maxRecDepth 20000 in
theorem gX10_addWork_X0_init : GoodIn wsX10_addWork (wsX0_init) := ggX10_addWork_X0_init
set_option maxRecDepth 20000 in
theorem ggX10_addWork_X10_addComponent : GoodIn wsX10_addWork wsX10_addComponent := goodIn_ca (goodIn_r _ [44, 11, 12, 45, 46, 47, 48, 49, 16, 50, 18, 51, 52, 53, 54, 55, 56, 57, 58, 59, 60, 61, 62, 63, 13, 14, 15, 17, 64, 65, 7, 66, 67, 68, 69, 70, 71, 72, 73, 74, 75, 76, 77, 78, 79, 80, 81, 82, 83, 84, 85, 86, 87, 88, 89, 90, 91, 92, 93, 94, 95, 96, 97, 98, 99, 100, 101, 102, 103, 104, 105, 106, 107, 108, 109, 110, 111, 112, 113, 114, 115, 116, 117, 118, 119, 120, 121, 125, 126, 127, 128, 129, 130, 131, 132, 133, 134, 138, 139, 135, 136, 137] (by decide +kernel) (by decide +kernel)) (goodIn_sub (fun _ h => List.mem_cons_of_mem _ (List.mem_append_right _ h)) (by decide +kernel))
set_option maxRecDepth 20000 in
theorem gX10_addWork_X10_addComponent : GoodIn wsX10_addWork (wsV RX10 117 RX10 yX10_addComponent wsX10_addComponent) := goodIn_app (goodIn_of _ (by decide +kernel)) ggX10_addWork_X10_addComponent
theorem dX10_addWork_0 : decode cX10_addWork 0 = .ok (.aload_n 0, 1) := by decide +kernel
theorem dX10_addWork_1 : decode cX10_addWork 1 = .ok (.iload_n 1, 1) := by decide +kernel
theorem dX10_addWork_2 : decode cX10_addWork 2 = .ok (.invokevirtual 110, 3) := by decide +kernel
theorem dX10_addWork_5 : decode cX10_addWork 5 = .ok (.aload_n 0, 1) := by decide +kernel
theorem dX10_addWork_6 : decode cX10_addWork 6 = .ok (.iload_n 2, 1) := by decide +kernel
theorem dX10_addWork_7 : decode cX10_addWork 7 = .ok (.invokevirtual 76, 3) := by decide +kernel
theorem dX10_addWork_10 : decode cX10_addWork 10 = .ok (.iload_n 3, 1) := by decide +kernel
theorem dX10_addWork_11 : decode cX10_addWork 11 = .ok (.iconst 1, 1) := by decide +kernel
theorem dX10_addWork_12 : decode cX10_addWork 12 = .ok (.bipush 99, 2) := by decide +kernel
theorem dX10_addWork_14 : decode cX10_addWork 14 = .ok (.invokestatic 33, 3) := by decide +kernel
theorem dX10_addWork_17 : decode cX10_addWork 17 = .ok (.aload_n 0, 1) := by decide +kernel
theorem dX10_addWork_18 : decode cX10_addWork 18 = .ok (.iload_n 1, 1) := by decide +kernel
theorem dX10_addWork_19 : decode cX10_addWork 19 = .ok (.new 113, 3) := by decide +kernel
theorem dX10_addWork_22 : decode cX10_addWork 22 = .ok (.dup, 1) := by decide +kernel
theorem dX10_addWork_23 : decode cX10_addWork 23 = .ok (.iconst 2, 1) := by decide +kernel
theorem dX10_addWork_24 : decode cX10_addWork 24 = .ok (.iload_n 2, 1) := by decide +kernel
theorem dX10_addWork_25 : decode cX10_addWork 25 = .ok (.iload_n 3, 1) := by decide +kernel
theorem dX10_addWork_26 : decode cX10_addWork 26 = .ok (.invokespecial 115, 3) := by decide +kernel
theorem dX10_addWork_29 : decode cX10_addWork 29 = .ok (.invokevirtual 117, 3) := by decide +kernel
theorem dX10_addWork_32 : decode cX10_addWork 32 = .ok (.ireturn, 1) := by decide +kernel
set_option maxRecDepth 20000 in
theorem ggX10_dropLast_X10_checkItem : GoodIn wsX10_dropLast wsX10_checkItem := goodIn_ca (goodIn_r _ [11, 12, 13, 3, 4, 14, 15, 16, 17, 18, 19, 20, 21, 10, 22, 66, 67, 68, 69, 70, 71, 72, 73, 74, 75, 78, 79, 80] (by decide +kernel) (by decide +kernel)) (goodIn_sub (fun _ h => List.mem_cons_of_mem _ (List.mem_append_right _ h)) (by decide +kernel))
set_option maxRecDepth 20000 in
theorem gX10_dropLast_X10_checkItem : GoodIn wsX10_dropLast (wsV RX10 110 RX10 yX10_checkItem wsX10_checkItem) := goodIn_app (goodIn_of _ (by decide +kernel)) ggX10_dropLast_X10_checkItem
set_option maxRecDepth 20000 in
theorem ggX10_dropLast_Jx4a65c_get_915e3 : GoodIn wsX10_dropLast wsJx4a65c_get_915e3 := goodIn_r _ [26, 19, 27, 28, 29, 30, 31, 32, 33, 34, 35, 36, 37, 17, 38, 39, 78, 79, 80] (by decide +kernel) (by decide +kernel)
set_option maxRecDepth 20000 in
theorem gX10_dropLast_Jx4a65c_get_915e3 : GoodIn wsX10_dropLast (wsV RX10 63 RJx4a65c yJx4a65c_get_915e3 wsJx4a65c_get_915e3) := goodIn_app (goodIn_of _ (by decide +kernel)) ggX10_dropLast_Jx4a65c_get_915e3
set_option maxRecDepth 20000 in
theorem ggX10_dropLast_Jx4a65c_isEmpty_aae02 : GoodIn wsX10_dropLast wsJx4a65c_isEmpty_aae02 := goodIn_r _ [43, 19, 78, 79, 80] (by decide +kernel) (by decide +kernel)
set_option maxRecDepth 20000 in
theorem gX10_dropLast_Jx4a65c_isEmpty_aae02 : GoodIn wsX10_dropLast (wsV RX10 136 RJx4a65c yJx4a65c_isEmpty_aae02 wsJx4a65c_isEmpty_aae02) := goodIn_app (goodIn_of _ (by decide +kernel)) ggX10_dropLast_Jx4a65c_isEmpty_aae02
set_option maxRecDepth 20000 in
theorem ggX10_dropLast_X3_dropLastComponent : GoodIn wsX10_dropLast wsX3_dropLastComponent := goodIn_r _ [48, 49, 50, 41, 42, 17, 43, 19, 51, 15, 16, 18, 52, 53, 54, 55, 39, 27, 28, 29, 30, 31, 32, 33, 34, 56, 57, 58, 59, 60, 61, 62, 63, 64, 65, 76, 77, 78, 79, 80] (by decide +kernel) (by decide +kernel)
set_option maxRecDepth 20000 in
theorem gX10_dropLast_X3_dropLastComponent : GoodIn wsX10_dropLast (wsV RX10 124 RX3 yX3_dropLastComponent wsX3_dropLastComponent) := goodIn_app (goodIn_of _ (by decide +kernel)) ggX10_dropLast_X3_dropLastComponent
set_option maxRecDepth 20000 in
theorem ggX10_dropLast_Jx4a65c_size_8abf5 : GoodIn wsX10_dropLast wsJx4a65c_size_8abf5 := goodIn_r _ [18, 19, 78, 79, 80] (by decide +kernel) (by decide +kernel)
set_option maxRecDepth 20000 in
theorem gX10_dropLast_Jx4a65c_size_8abf5 : GoodIn wsX10_dropLast (wsV RX10 41 RJx4a65c yJx4a65c_size_8abf5 wsJx4a65c_size_8abf5) := goodIn_app (goodIn_of _ (by decide +kernel)) ggX10_dropLast_Jx4a65c_size_8abf5
theorem dX10_dropLast_0 : decode cX10_dropLast 0 = .ok (.aload_n 0, 1) := by decide +kernel
theorem dX10_dropLast_1 : decode cX10_dropLast 1 = .ok (.iload_n 1, 1) := by decide +kernel
theorem dX10_dropLast_2 : decode cX10_dropLast 2 = .ok (.invokevirtual 110, 3) := by decide +kernel
theorem dX10_dropLast_5 : decode cX10_dropLast 5 = .ok (.aload_n 0, 1) := by decide +kernel
theorem dX10_dropLast_6 : decode cX10_dropLast 6 = .ok (.getfield 10, 3) := by decide +kernel
theorem dX10_dropLast_9 : decode cX10_dropLast 9 = .ok (.getfield 103, 3) := by decide +kernel
theorem dX10_dropLast_12 : decode cX10_dropLast 12 = .ok (.iload_n 1, 1) := by decide +kernel
theorem dX10_dropLast_13 : decode cX10_dropLast 13 = .ok (.invokevirtual 63, 3) := by decide +kernel
theorem dX10_dropLast_16 : decode cX10_dropLast 16 = .ok (.checkcast 106, 3) := by decide +kernel
theorem dX10_dropLast_19 : decode cX10_dropLast 19 = .ok (.astore_n 2, 1) := by decide +kernel
theorem dX10_dropLast_20 : decode cX10_dropLast 20 = .ok (.aload_n 2, 1) := by decide +kernel
theorem dX10_dropLast_21 : decode cX10_dropLast 21 = .ok (.getfield 133, 3) := by decide +kernel
theorem dX10_dropLast_24 : decode cX10_dropLast 24 = .ok (.invokevirtual 136, 3) := by decide +kernel
theorem dX10_dropLast_27 : decode cX10_dropLast 27 = .ok (.ifCond .eq 13, 3) := by decide +kernel
theorem dX10_dropLast_30 : decode cX10_dropLast 30 = .ok (.new 93, 3) := by decide +kernel
theorem dX10_dropLast_33 : decode cX10_dropLast 33 = .ok (.dup, 1) := by decide +kernel
theorem dX10_dropLast_34 : decode cX10_dropLast 34 = .ok (.ldc 140, 2) := by decide +kernel
theorem dX10_dropLast_36 : decode cX10_dropLast 36 = .ok (.invokespecial 97, 3) := by decide +kernel
theorem dX10_dropLast_39 : decode cX10_dropLast 39 = .ok (.athrow, 1) := by decide +kernel
theorem dX10_dropLast_40 : decode cX10_dropLast 40 = .ok (.aload_n 2, 1) := by decide +kernel
theorem dX10_dropLast_41 : decode cX10_dropLast 41 = .ok (.invokevirtual 124, 3) := by decide +kernel
theorem dX10_dropLast_44 : decode cX10_dropLast 44 = .ok (.aload_n 2, 1) := by decide +kernel
theorem dX10_dropLast_45 : decode cX10_dropLast 45 = .ok (.getfield 133, 3) := by decide +kernel
theorem dX10_dropLast_48 : decode cX10_dropLast 48 = .ok (.invokevirtual 41, 3) := by decide +kernel
theorem dX10_dropLast_51 : decode cX10_dropLast 51 = .ok (.ireturn, 1) := by decide +kernel
set_option maxRecDepth 20000 in
theorem ggX10_depthOf_X10_checkItem : GoodIn wsX10_depthOf wsX10_checkItem := goodIn_ca (goodIn_r _ [7, 8, 9, 10, 11, 12, 13, 14, 15, 16, 17, 18, 19, 6, 20, 85, 86, 87, 97, 98, 99, 100, 101, 102, 103, 104, 105, 106] (by decide +kernel) (by decide +kernel)) (goodIn_sub (fun _ h => List.mem_cons_of_mem _ (List.mem_append_right _ h)) (by decide +kernel))
set_option maxRecDepth 20000 in
theorem gX10_depthOf_X10_checkItem : GoodIn wsX10_depthOf (wsV RX10 110 RX10 yX10_checkItem wsX10_checkItem) := goodIn_app (goodIn_of _ (by decide +kernel)) ggX10_depthOf_X10_checkItem
set_option maxRecDepth 20000 in
theorem ggX10_depthOf_X2_choose : GoodIn wsX10_depthOf wsX2_choose := goodIn_ca (goodIn_r _ [25, 26, 27, 28, 29, 30, 31, 13, 14, 15, 16, 17, 32, 33, 34, 24, 35, 36, 37, 38, 39, 40, 41, 42, 43, 44, 45, 46, 47, 48, 49, 50, 51, 52, 53, 54, 55, 56, 6, 57, 58, 59, 60, 61, 62, 63, 64, 65, 66, 67, 68, 69, 70, 71, 72, 73, 74, 75, 76, 77, 78, 79, 80, 81, 82, 83, 84, 88, 89, 90, 91, 92, 93, 94, 95, 96, 97, 98, 99, 100, 101, 102, 103, 104, 105, 106, 107, 108, 109, 110, 111, 112, 113] (by decide +kernel) (by decide +kernel)) (goodIn_sub (fun _ h => List.mem_cons_of_mem _ (List.mem_append_left _ (List.mem_append_right _ h))) (by decide +kernel))
set_option maxRecDepth 20000 in
theorem gX10_depthOf_X2_choose : GoodIn wsX10_depthOf (wsV RX10 121 RX2 yX2_choose wsX2_choose) := goodIn_app (goodIn_of _ (by decide +kernel)) ggX10_depthOf_X2_choose
theorem dX10_depthOf_0 : decode cX10_depthOf 0 = .ok (.aload_n 0, 1) := by decide +kernel
theorem dX10_depthOf_1 : decode cX10_depthOf 1 = .ok (.iload_n 1, 1) := by decide +kernel
theorem dX10_depthOf_2 : decode cX10_depthOf 2 = .ok (.invokevirtual 110, 3) := by decide +kernel
theorem dX10_depthOf_5 : decode cX10_depthOf 5 = .ok (.aload_n 0, 1) := by decide +kernel
theorem dX10_depthOf_6 : decode cX10_depthOf 6 = .ok (.getfield 21, 3) := by decide +kernel
theorem dX10_depthOf_9 : decode cX10_depthOf 9 = .ok (.aload_n 0, 1) := by decide +kernel
theorem dX10_depthOf_10 : decode cX10_depthOf 10 = .ok (.getfield 25, 3) := by decide +kernel
theorem dX10_depthOf_13 : decode cX10_depthOf 13 = .ok (.invokevirtual 121, 3) := by decide +kernel
theorem dX10_depthOf_16 : decode cX10_depthOf 16 = .ok (.pop, 1) := by decide +kernel
theorem dX10_depthOf_17 : decode cX10_depthOf 17 = .ok (.aload_n 0, 1) := by decide +kernel
theorem dX10_depthOf_18 : decode cX10_depthOf 18 = .ok (.getfield 21, 3) := by decide +kernel
theorem dX10_depthOf_21 : decode cX10_depthOf 21 = .ok (.getfield 129, 3) := by decide +kernel
theorem dX10_depthOf_24 : decode cX10_depthOf 24 = .ok (.iload_n 1, 1) := by decide +kernel
theorem dX10_depthOf_25 : decode cX10_depthOf 25 = .ok (.iaload, 1) := by decide +kernel
theorem dX10_depthOf_26 : decode cX10_depthOf 26 = .ok (.ireturn, 1) := by decide +kernel
set_option maxRecDepth 20000 in
theorem ggX10_unitCost_X10_checkItem : GoodIn wsX10_unitCost wsX10_checkItem := goodIn_ca (goodIn_r _ [7, 8, 9, 10, 11, 12, 13, 14, 15, 16, 17, 18, 19, 6, 20, 177, 178, 179, 189, 190, 191, 192, 193, 194, 195, 196, 197, 198] (by decide +kernel) (by decide +kernel)) (goodIn_sub (fun _ h => List.mem_cons_of_mem _ (List.mem_append_left _ (List.mem_append_left _ (List.mem_append_right _ h)))) (by decide +kernel))
set_option maxRecDepth 20000 in
theorem gX10_unitCost_X10_checkItem : GoodIn wsX10_unitCost (wsV RX10 110 RX10 yX10_checkItem wsX10_checkItem) := goodIn_app (goodIn_of _ (by decide +kernel)) ggX10_unitCost_X10_checkItem
set_option maxRecDepth 20000 in
theorem ggX10_unitCost_X10_workOut : GoodIn wsX10_unitCost wsX10_workOut := goodIn_ca (goodIn_ca (goodIn_r _ [24, 2, 25, 26, 27, 28, 29, 30, 31, 32, 33, 34, 35, 13, 14, 15, 16, 17, 36, 37, 38, 39, 40, 41, 42, 43, 44, 45, 46, 47, 48, 49, 50, 51, 52, 53, 54, 55, 56, 57, 58, 59, 60, 6, 61, 62, 63, 64, 65, 66, 67, 68, 69, 70, 71, 72, 73, 74, 75, 76, 77, 78, 79, 80, 81, 82, 83, 84, 85, 86, 87, 88, 89, 90, 91, 92, 93, 94, 95, 96, 97, 98, 99, 100, 101, 102, 103, 104, 105, 106, 107, 108, 109, 110, 111, 112, 113, 114, 115, 116, 117, 118, 119, 120, 121, 122, 123, 124, 125, 126, 127, 128, 129, 130, 131, 132, 133, 134, 135, 136, 137, 138, 139, 140, 141, 142, 143, 144, 145, 146, 147, 148, 149, 150, 151, 152, 153, 154, 155, 156, 157, 158, 159, 160, 161, 162, 163, 164, 165, 166, 167, 168, 169, 170, 171, 172, 177, 178, 179, 180, 181, 182, 183, 184, 185, 186, 187, 188, 189, 190, 191, 192, 193, 194, 195, 196, 197, 198, 199, 200, 201, 202, 203, 204, 205, 206, 207, 208, 209, 210, 211, 212, 213, 214, 215, 216] (by decide +kernel) (by decide +kernel)) (goodIn_sub (fun _ h => List.mem_cons_of_mem _ (List.mem_append_left _ (List.mem_append_right _ h))) (by decide +kernel))) (goodIn_sub (fun _ h => List.mem_cons_of_mem _ (List.mem_append_right _ h)) (by decide +kernel))
set_option maxRecDepth 20000 in
theorem gX10_unitCost_X10_workOut : GoodIn wsX10_unitCost (wsV RX10 142 RX10 yX10_workOut wsX10_workOut) := goodIn_app (goodIn_of _ (by decide +kernel)) ggX10_unitCost_X10_workOut
set_option maxRecDepth 20000 in
theorem ggX10_unitCost_X2_costOfUnits : GoodIn wsX10_unitCost wsX2_costOfUnits := goodIn_ca (goodIn_r _ [176, 30, 33, 159, 161, 35, 13, 14, 15, 16, 17, 43, 44, 45, 46, 47, 48, 49, 50, 51, 52, 53, 54, 55, 56, 57, 58, 59, 180, 181, 182, 183, 184, 185, 186, 187, 188, 189, 190, 191, 192, 193, 194, 195, 213, 214, 215, 216, 196, 197, 198] (by decide +kernel) (by decide +kernel)) (goodIn_sub (fun _ h => List.mem_cons_of_mem _ (List.mem_append_left _ (List.mem_append_right _ h))) (by decide +kernel))
set_option maxRecDepth 20000 in
theorem gX10_unitCost_X2_costOfUnits : GoodIn wsX10_unitCost (wsV RX10 149 RX2 yX2_costOfUnits wsX2_costOfUnits) := goodIn_app (goodIn_of _ (by decide +kernel)) ggX10_unitCost_X2_costOfUnits
theorem dX10_unitCost_0 : decode cX10_unitCost 0 = .ok (.aload_n 0, 1) := by decide +kernel
theorem dX10_unitCost_1 : decode cX10_unitCost 1 = .ok (.iload_n 1, 1) := by decide +kernel
theorem dX10_unitCost_2 : decode cX10_unitCost 2 = .ok (.invokevirtual 110, 3) := by decide +kernel
theorem dX10_unitCost_5 : decode cX10_unitCost 5 = .ok (.aload_n 0, 1) := by decide +kernel
theorem dX10_unitCost_6 : decode cX10_unitCost 6 = .ok (.aload_n 0, 1) := by decide +kernel
theorem dX10_unitCost_7 : decode cX10_unitCost 7 = .ok (.getfield 25, 3) := by decide +kernel
theorem dX10_unitCost_10 : decode cX10_unitCost 10 = .ok (.invokevirtual 142, 3) := by decide +kernel
theorem dX10_unitCost_13 : decode cX10_unitCost 13 = .ok (.aload_n 0, 1) := by decide +kernel
theorem dX10_unitCost_14 : decode cX10_unitCost 14 = .ok (.getfield 21, 3) := by decide +kernel
theorem dX10_unitCost_17 : decode cX10_unitCost 17 = .ok (.aload_n 0, 1) := by decide +kernel
theorem dX10_unitCost_18 : decode cX10_unitCost 18 = .ok (.getfield 21, 3) := by decide +kernel
theorem dX10_unitCost_21 : decode cX10_unitCost 21 = .ok (.getfield 145, 3) := by decide +kernel
theorem dX10_unitCost_24 : decode cX10_unitCost 24 = .ok (.iload_n 1, 1) := by decide +kernel
theorem dX10_unitCost_25 : decode cX10_unitCost 25 = .ok (.aaload, 1) := by decide +kernel
theorem dX10_unitCost_26 : decode cX10_unitCost 26 = .ok (.invokevirtual 149, 3) := by decide +kernel
theorem dX10_unitCost_29 : decode cX10_unitCost 29 = .ok (.lreturn, 1) := by decide +kernel
set_option maxRecDepth 20000 in
theorem ggX10_needed_X10_checkItem : GoodIn wsX10_needed wsX10_checkItem := goodIn_ca (goodIn_r _ [7, 8, 9, 10, 11, 12, 13, 14, 15, 16, 17, 18, 19, 6, 20, 178, 179, 180, 190, 191, 192, 193, 194, 195, 196, 197, 198, 199] (by decide +kernel) (by decide +kernel)) (goodIn_sub (fun _ h => List.mem_cons_of_mem _ (List.mem_append_left _ (List.mem_append_right _ h))) (by decide +kernel))
set_option maxRecDepth 20000 in
theorem gX10_needed_X10_checkItem : GoodIn wsX10_needed (wsV RX10 110 RX10 yX10_checkItem wsX10_checkItem) := goodIn_app (goodIn_of _ (by decide +kernel)) ggX10_needed_X10_checkItem
set_option maxRecDepth 20000 in
theorem ggX10_needed_X10_checkResource : GoodIn wsX10_needed wsX10_checkResource := goodIn_ca (goodIn_r _ [24, 8, 9, 10, 25, 12, 13, 14, 15, 16, 17, 18, 19, 6, 20, 178, 179, 180, 190, 191, 192, 193, 194, 195, 196, 197, 198, 199] (by decide +kernel) (by decide +kernel)) (goodIn_sub (fun _ h => List.mem_cons_of_mem _ (List.mem_append_left _ (List.mem_append_right _ h))) (by decide +kernel))
set_option maxRecDepth 20000 in
theorem gX10_needed_X10_checkResource : GoodIn wsX10_needed (wsV RX10 60 RX10 yX10_checkResource wsX10_checkResource) := goodIn_app (goodIn_of _ (by decide +kernel)) ggX10_needed_X10_checkResource
set_option maxRecDepth 20000 in
theorem ggX10_needed_X10_workOut : GoodIn wsX10_needed wsX10_workOut := goodIn_ca (goodIn_ca (goodIn_r _ [29, 2, 30, 31, 32, 33, 34, 35, 36, 37, 38, 39, 40, 13, 14, 15, 16, 17, 41, 42, 43, 44, 45, 46, 47, 48, 49, 50, 51, 52, 53, 54, 55, 56, 57, 58, 59, 60, 61, 62, 63, 64, 65, 6, 66, 67, 68, 69, 70, 71, 72, 73, 74, 75, 76, 77, 78, 79, 80, 81, 82, 83, 84, 85, 86, 87, 88, 89, 90, 91, 92, 93, 94, 95, 96, 97, 98, 99, 100, 101, 102, 103, 104, 105, 106, 107, 108, 109, 110, 111, 112, 113, 114, 115, 116, 117, 118, 119, 120, 121, 122, 123, 124, 125, 126, 127, 128, 129, 130, 131, 132, 133, 134, 135, 136, 137, 138, 139, 140, 141, 142, 143, 144, 145, 146, 147, 148, 149, 150, 151, 152, 153, 154, 155, 156, 157, 158, 159, 160, 161, 162, 163, 164, 165, 166, 167, 168, 169, 170, 171, 172, 173, 174, 175, 176, 177, 178, 179, 180, 181, 182, 183, 184, 185, 186, 187, 188, 189, 190, 191, 192, 193, 194, 195, 196, 197, 198, 199, 200, 201, 202, 203, 204, 205, 206, 207, 208, 209, 210, 211, 212, 213, 214, 215, 216, 217] (by decide +kernel) (by decide +kernel)) (goodIn_sub (fun _ h => List.mem_cons_of_mem _ (List.mem_append_left _ (List.mem_append_left _ (List.mem_append_right _ h)))) (by decide +kernel))) (goodIn_sub (fun _ h => List.mem_cons_of_mem _ (List.mem_append_right _ h)) (by decide +kernel))
set_option maxRecDepth 20000 in
theorem gX10_needed_X10_workOut : GoodIn wsX10_needed (wsV RX10 142 RX10 yX10_workOut wsX10_workOut) := goodIn_app (goodIn_of _ (by decide +kernel)) ggX10_needed_X10_workOut
theorem dX10_needed_0 : decode cX10_needed 0 = .ok (.aload_n 0, 1) := by decide +kernel
theorem dX10_needed_1 : decode cX10_needed 1 = .ok (.iload_n 1, 1) := by decide +kernel
theorem dX10_needed_2 : decode cX10_needed 2 = .ok (.invokevirtual 110, 3) := by decide +kernel
theorem dX10_needed_5 : decode cX10_needed 5 = .ok (.aload_n 0, 1) := by decide +kernel
theorem dX10_needed_6 : decode cX10_needed 6 = .ok (.iload_n 2, 1) := by decide +kernel
theorem dX10_needed_7 : decode cX10_needed 7 = .ok (.invokevirtual 60, 3) := by decide +kernel
theorem dX10_needed_10 : decode cX10_needed 10 = .ok (.aload_n 0, 1) := by decide +kernel
theorem dX10_needed_11 : decode cX10_needed 11 = .ok (.aload_n 0, 1) := by decide +kernel
theorem dX10_needed_12 : decode cX10_needed 12 = .ok (.getfield 25, 3) := by decide +kernel
theorem dX10_needed_15 : decode cX10_needed 15 = .ok (.invokevirtual 142, 3) := by decide +kernel
theorem dX10_needed_18 : decode cX10_needed 18 = .ok (.aload_n 0, 1) := by decide +kernel
theorem dX10_needed_19 : decode cX10_needed 19 = .ok (.getfield 21, 3) := by decide +kernel
theorem dX10_needed_22 : decode cX10_needed 22 = .ok (.getfield 145, 3) := by decide +kernel
theorem dX10_needed_25 : decode cX10_needed 25 = .ok (.iload_n 1, 1) := by decide +kernel
theorem dX10_needed_26 : decode cX10_needed 26 = .ok (.aaload, 1) := by decide +kernel
theorem dX10_needed_27 : decode cX10_needed 27 = .ok (.iload_n 2, 1) := by decide +kernel
theorem dX10_needed_28 : decode cX10_needed 28 = .ok (.laload, 1) := by decide +kernel
theorem dX10_needed_29 : decode cX10_needed 29 = .ok (.lreturn, 1) := by decide +kernel
set_option maxRecDepth 20000 in
theorem ggX10_addLine_X10_checkItem : GoodIn wsX10_addLine wsX10_checkItem := goodIn_ca (goodIn_r _ [10, 11, 12, 1, 13, 14, 15, 16, 17, 18, 19, 20, 21, 9, 22, 90, 91, 92, 93, 94, 95, 96, 97, 98, 99, 102, 103, 104] (by decide +kernel) (by decide +kernel)) (goodIn_sub (fun _ h => List.mem_cons_of_mem _ (List.mem_append_left _ (List.mem_append_right _ h))) (by decide +kernel))
set_option maxRecDepth 20000 in
theorem gX10_addLine_X10_checkItem : GoodIn wsX10_addLine (wsV RX10 110 RX10 yX10_checkItem wsX10_checkItem) := goodIn_app (goodIn_of _ (by decide +kernel)) ggX10_addLine_X10_checkItem
set_option maxRecDepth 20000 in
theorem ggX10_addLine_Jx4a65c_size_8abf5 : GoodIn wsX10_addLine wsJx4a65c_size_8abf5 := goodIn_r _ [18, 19, 102, 103, 104] (by decide +kernel) (by decide +kernel)
set_option maxRecDepth 20000 in
theorem gX10_addLine_Jx4a65c_size_8abf5 : GoodIn wsX10_addLine (wsV RX10 41 RJx4a65c yJx4a65c_size_8abf5 wsJx4a65c_size_8abf5) := goodIn_app (goodIn_of _ (by decide +kernel)) ggX10_addLine_Jx4a65c_size_8abf5
set_option maxRecDepth 20000 in
theorem ggX10_addLine_X10_checkRoom : GoodIn wsX10_addLine wsX10_checkRoom := goodIn_ca (goodIn_r _ [25, 26, 27] (by decide +kernel) (by decide +kernel)) (goodIn_sub (fun _ h => List.mem_cons_of_mem _ (List.mem_append_right _ h)) (by decide +kernel))
set_option maxRecDepth 20000 in
theorem gX10_addLine_X10_checkRoom : GoodIn wsX10_addLine (va_wsS RX10 47 yX10_checkRoom wsX10_checkRoom) := goodIn_app (goodIn_of _ (by decide +kernel)) ggX10_addLine_X10_checkRoom
set_option maxRecDepth 20000 in
theorem ggX10_addLine_X4_init : GoodIn wsX10_addLine wsX4_init := goodIn_r _ [30, 31, 32, 33, 34, 35, 100, 101] (by decide +kernel) (by decide +kernel)
set_option maxRecDepth 20000 in
theorem gX10_addLine_X4_init : GoodIn wsX10_addLine (wsX4_init) := ggX10_addLine_X4_init
set_option maxRecDepth 20000 in
theorem ggX10_addLine_Jx4a65c_add_9ea2d : GoodIn wsX10_addLine wsJx4a65c_add_9ea2d := goodIn_r _ [39, 40, 41, 42, 19, 43, 44, 45, 17, 46, 47, 48, 49, 50, 51, 52, 53, 54, 55, 56, 57, 58, 59, 60, 61, 62, 63, 64, 65, 66, 67, 68, 69, 70, 71, 72, 73, 74, 75, 76, 77, 78, 79, 80, 81, 82, 83, 84, 85, 86, 87, 88, 89, 102, 103, 104] (by decide +kernel) (by decide +kernel)
set_option maxRecDepth 20000 in
theorem gX10_addLine_Jx4a65c_add_9ea2d : GoodIn wsX10_addLine (wsV RX10 56 RJx4a65c yJx4a65c_add_9ea2d wsJx4a65c_add_9ea2d) := goodIn_app (goodIn_of _ (by decide +kernel)) ggX10_addLine_Jx4a65c_add_9ea2d
theorem dX10_addLine_0 : decode cX10_addLine 0 = .ok (.aload_n 0, 1) := by decide +kernel
theorem dX10_addLine_1 : decode cX10_addLine 1 = .ok (.iload_n 1, 1) := by decide +kernel
theorem dX10_addLine_2 : decode cX10_addLine 2 = .ok (.invokevirtual 110, 3) := by decide +kernel
theorem dX10_addLine_5 : decode cX10_addLine 5 = .ok (.aload_n 0, 1) := by decide +kernel
theorem dX10_addLine_6 : decode cX10_addLine 6 = .ok (.getfield 10, 3) := by decide +kernel
theorem dX10_addLine_9 : decode cX10_addLine 9 = .ok (.getfield 153, 3) := by decide +kernel
theorem dX10_addLine_12 : decode cX10_addLine 12 = .ok (.invokevirtual 41, 3) := by decide +kernel
theorem dX10_addLine_15 : decode cX10_addLine 15 = .ok (.bipush 10, 2) := by decide +kernel
theorem dX10_addLine_17 : decode cX10_addLine 17 = .ok (.invokestatic 47, 3) := by decide +kernel
theorem dX10_addLine_20 : decode cX10_addLine 20 = .ok (.aload_n 0, 1) := by decide +kernel
theorem dX10_addLine_21 : decode cX10_addLine 21 = .ok (.getfield 10, 3) := by decide +kernel
theorem dX10_addLine_24 : decode cX10_addLine 24 = .ok (.getfield 153, 3) := by decide +kernel
theorem dX10_addLine_27 : decode cX10_addLine 27 = .ok (.new 156, 3) := by decide +kernel
theorem dX10_addLine_30 : decode cX10_addLine 30 = .ok (.dup, 1) := by decide +kernel
theorem dX10_addLine_31 : decode cX10_addLine 31 = .ok (.iload_n 1, 1) := by decide +kernel
theorem dX10_addLine_32 : decode cX10_addLine 32 = .ok (.invokespecial 158, 3) := by decide +kernel
theorem dX10_addLine_35 : decode cX10_addLine 35 = .ok (.invokevirtual 56, 3) := by decide +kernel
theorem dX10_addLine_38 : decode cX10_addLine 38 = .ok (.pop, 1) := by decide +kernel
theorem dX10_addLine_39 : decode cX10_addLine 39 = .ok (.aload_n 0, 1) := by decide +kernel
theorem dX10_addLine_40 : decode cX10_addLine 40 = .ok (.getfield 10, 3) := by decide +kernel
theorem dX10_addLine_43 : decode cX10_addLine 43 = .ok (.getfield 153, 3) := by decide +kernel
theorem dX10_addLine_46 : decode cX10_addLine 46 = .ok (.invokevirtual 41, 3) := by decide +kernel
theorem dX10_addLine_49 : decode cX10_addLine 49 = .ok (.iconst 1, 1) := by decide +kernel
theorem dX10_addLine_50 : decode cX10_addLine 50 = .ok (.isub, 1) := by decide +kernel
theorem dX10_addLine_51 : decode cX10_addLine 51 = .ok (.ireturn, 1) := by decide +kernel
set_option maxRecDepth 20000 in
theorem ggX10_addRow_X10_checkLine : GoodIn wsX10_addRow wsX10_checkLine := goodIn_ca (goodIn_r _ [10, 11, 12, 1, 13, 14, 15, 16, 17, 18, 19, 20, 21, 9, 22, 128, 129, 130, 131, 132, 133, 134, 135, 136, 137, 140, 141, 142] (by decide +kernel) (by decide +kernel)) (goodIn_sub (fun _ h => List.mem_cons_of_mem _ (List.mem_append_left _ (List.mem_append_left _ (List.mem_append_left _ (List.mem_append_right _ h))))) (by decide +kernel))
set_option maxRecDepth 20000 in
theorem gX10_addRow_X10_checkLine : GoodIn wsX10_addRow (wsV RX10 159 RX10 yX10_checkLine wsX10_checkLine) := goodIn_app (goodIn_of _ (by decide +kernel)) ggX10_addRow_X10_checkLine
set_option maxRecDepth 20000 in
theorem ggX10_addRow_X10_checkShape : GoodIn wsX10_addRow wsX10_checkShape := goodIn_ca (goodIn_r _ [25, 26, 27] (by decide +kernel) (by decide +kernel)) (goodIn_sub (fun _ h => List.mem_cons_of_mem _ (List.mem_append_left _ (List.mem_append_left _ (List.mem_append_right _ h)))) (by decide +kernel))
set_option maxRecDepth 20000 in
theorem gX10_addRow_X10_checkShape : GoodIn wsX10_addRow (va_wsS RX10 162 yX10_checkShape wsX10_checkShape) := goodIn_app (goodIn_of _ (by decide +kernel)) ggX10_addRow_X10_checkShape
set_option maxRecDepth 20000 in
theorem ggX10_addRow_X10_checkTimes : GoodIn wsX10_addRow wsX10_checkTimes := goodIn_ca (goodIn_r _ [30, 26, 27, 31, 32, 9, 33] (by decide +kernel) (by decide +kernel)) (goodIn_sub (fun _ h => List.mem_cons_of_mem _ (List.mem_append_left _ (List.mem_append_left _ (List.mem_append_right _ h)))) (by decide +kernel))
set_option maxRecDepth 20000 in
theorem gX10_addRow_X10_checkTimes : GoodIn wsX10_addRow (va_wsS RX10 166 yX10_checkTimes wsX10_checkTimes) := goodIn_app (goodIn_of _ (by decide +kernel)) ggX10_addRow_X10_checkTimes
set_option maxRecDepth 20000 in
theorem ggX10_addRow_X10_checkRange : GoodIn wsX10_addRow wsX10_checkRange := goodIn_ca (goodIn_r _ [33, 26, 27] (by decide +kernel) (by decide +kernel)) (goodIn_sub (fun _ h => List.mem_cons_of_mem _ (List.mem_append_left _ (List.mem_append_left _ (List.mem_append_right _ h)))) (by decide +kernel))
set_option maxRecDepth 20000 in
theorem gX10_addRow_X10_checkRange : GoodIn wsX10_addRow (va_wsS RX10 33 yX10_checkRange wsX10_checkRange) := goodIn_app (goodIn_of _ (by decide +kernel)) ggX10_addRow_X10_checkRange
set_option maxRecDepth 20000 in
theorem ggX10_addRow_Jx4a65c_size_8abf5 : GoodIn wsX10_addRow wsJx4a65c_size_8abf5 := goodIn_r _ [18, 19, 140, 141, 142] (by decide +kernel) (by decide +kernel)
set_option maxRecDepth 20000 in
theorem gX10_addRow_Jx4a65c_size_8abf5 : GoodIn wsX10_addRow (wsV RX10 41 RJx4a65c yJx4a65c_size_8abf5 wsJx4a65c_size_8abf5) := goodIn_app (goodIn_of _ (by decide +kernel)) ggX10_addRow_Jx4a65c_size_8abf5
set_option maxRecDepth 20000 in
theorem ggX10_addRow_X10_checkRoom : GoodIn wsX10_addRow wsX10_checkRoom := goodIn_ca (goodIn_r _ [36, 37, 38] (by decide +kernel) (by decide +kernel)) (goodIn_sub (fun _ h => List.mem_cons_of_mem _ (List.mem_append_left _ (List.mem_append_right _ h))) (by decide +kernel))
set_option maxRecDepth 20000 in
theorem gX10_addRow_X10_checkRoom : GoodIn wsX10_addRow (va_wsS RX10 47 yX10_checkRoom wsX10_checkRoom) := goodIn_app (goodIn_of _ (by decide +kernel)) ggX10_addRow_X10_checkRoom
set_option maxRecDepth 20000 in
theorem ggX10_addRow_X10_sizeOf : GoodIn wsX10_addRow wsX10_sizeOf := goodIn_r _ [41] (by decide +kernel) (by decide +kernel)
set_option maxRecDepth 20000 in
theorem gX10_addRow_X10_sizeOf : GoodIn wsX10_addRow (va_wsS RX10 172 yX10_sizeOf wsX10_sizeOf) := goodIn_app (goodIn_of _ (by decide +kernel)) ggX10_addRow_X10_sizeOf
set_option maxRecDepth 20000 in
theorem ggX10_addRow_X10_changeQuantity : GoodIn wsX10_addRow wsX10_changeQuantity := goodIn_ca (goodIn_r _ [45, 46, 47, 1, 13, 48, 49, 50, 51, 52, 17, 53, 19, 54, 55, 56, 57, 58, 59, 60, 61, 62, 63, 64, 65, 66, 128, 129, 130, 131, 132, 133, 134, 135, 136, 137, 143, 144, 140, 141, 142] (by decide +kernel) (by decide +kernel)) (goodIn_sub (fun _ h => List.mem_cons_of_mem _ (List.mem_append_right _ h)) (by decide +kernel))
set_option maxRecDepth 20000 in
theorem gX10_addRow_X10_changeQuantity : GoodIn wsX10_addRow (wsV RX10 176 RX10 yX10_changeQuantity wsX10_changeQuantity) := goodIn_app (goodIn_of _ (by decide +kernel)) ggX10_addRow_X10_changeQuantity
set_option maxRecDepth 20000 in
theorem ggX10_addRow_X8_init : GoodIn wsX10_addRow wsX8_init := goodIn_r _ [69, 70, 71, 72, 73, 74, 138, 139] (by decide +kernel) (by decide +kernel)
set_option maxRecDepth 20000 in
theorem gX10_addRow_X8_init : GoodIn wsX10_addRow (wsX8_init) := ggX10_addRow_X8_init
set_option maxRecDepth 20000 in
theorem ggX10_addRow_Jx4a65c_add_9ea2d : GoodIn wsX10_addRow wsJx4a65c_add_9ea2d := goodIn_r _ [78, 79, 80, 66, 19, 81, 82, 83, 17, 84, 85, 86, 87, 88, 89, 90, 91, 92, 93, 94, 95, 96, 97, 98, 99, 100, 101, 102, 103, 104, 105, 106, 107, 108, 109, 110, 111, 112, 113, 114, 115, 116, 117, 118, 119, 120, 121, 122, 123, 124, 125, 126, 127, 140, 141, 142] (by decide +kernel) (by decide +kernel)
set_option maxRecDepth 20000 in
theorem gX10_addRow_Jx4a65c_add_9ea2d : GoodIn wsX10_addRow (wsV RX10 56 RJx4a65c yJx4a65c_add_9ea2d wsJx4a65c_add_9ea2d) := goodIn_app (goodIn_of _ (by decide +kernel)) ggX10_addRow_Jx4a65c_add_9ea2d
theorem dX10_addRow_0 : decode cX10_addRow 0 = .ok (.aload_n 0, 1) := by decide +kernel
theorem dX10_addRow_1 : decode cX10_addRow 1 = .ok (.iload_n 1, 1) := by decide +kernel
theorem dX10_addRow_2 : decode cX10_addRow 2 = .ok (.invokevirtual 159, 3) := by decide +kernel
theorem dX10_addRow_5 : decode cX10_addRow 5 = .ok (.iload_n 2, 1) := by decide +kernel
theorem dX10_addRow_6 : decode cX10_addRow 6 = .ok (.invokestatic 162, 3) := by decide +kernel
theorem dX10_addRow_9 : decode cX10_addRow 9 = .ok (.iload_n 3, 1) := by decide +kernel
theorem dX10_addRow_10 : decode cX10_addRow 10 = .ok (.invokestatic 166, 3) := by decide +kernel
theorem dX10_addRow_13 : decode cX10_addRow 13 = .ok (.iload 4, 2) := by decide +kernel
theorem dX10_addRow_15 : decode cX10_addRow 15 = .ok (.iconst 0, 1) := by decide +kernel
theorem dX10_addRow_16 : decode cX10_addRow 16 = .ok (.bipush 99, 2) := by decide +kernel
theorem dX10_addRow_18 : decode cX10_addRow 18 = .ok (.invokestatic 33, 3) := by decide +kernel
theorem dX10_addRow_21 : decode cX10_addRow 21 = .ok (.iload 5, 2) := by decide +kernel
theorem dX10_addRow_23 : decode cX10_addRow 23 = .ok (.iconst 0, 1) := by decide +kernel
theorem dX10_addRow_24 : decode cX10_addRow 24 = .ok (.bipush 99, 2) := by decide +kernel
theorem dX10_addRow_26 : decode cX10_addRow 26 = .ok (.invokestatic 33, 3) := by decide +kernel
theorem dX10_addRow_29 : decode cX10_addRow 29 = .ok (.iload 6, 2) := by decide +kernel
theorem dX10_addRow_31 : decode cX10_addRow 31 = .ok (.iconst 0, 1) := by decide +kernel
theorem dX10_addRow_32 : decode cX10_addRow 32 = .ok (.bipush 99, 2) := by decide +kernel
theorem dX10_addRow_34 : decode cX10_addRow 34 = .ok (.invokestatic 33, 3) := by decide +kernel
theorem dX10_addRow_37 : decode cX10_addRow 37 = .ok (.aload_n 0, 1) := by decide +kernel
theorem dX10_addRow_38 : decode cX10_addRow 38 = .ok (.getfield 10, 3) := by decide +kernel
theorem dX10_addRow_41 : decode cX10_addRow 41 = .ok (.getfield 169, 3) := by decide +kernel
theorem dX10_addRow_44 : decode cX10_addRow 44 = .ok (.invokevirtual 41, 3) := by decide +kernel
theorem dX10_addRow_47 : decode cX10_addRow 47 = .ok (.bipush 40, 2) := by decide +kernel
theorem dX10_addRow_49 : decode cX10_addRow 49 = .ok (.invokestatic 47, 3) := by decide +kernel
theorem dX10_addRow_52 : decode cX10_addRow 52 = .ok (.iload_n 3, 1) := by decide +kernel
theorem dX10_addRow_53 : decode cX10_addRow 53 = .ok (.iload_n 2, 1) := by decide +kernel
theorem dX10_addRow_54 : decode cX10_addRow 54 = .ok (.iload 4, 2) := by decide +kernel
theorem dX10_addRow_56 : decode cX10_addRow 56 = .ok (.iload 5, 2) := by decide +kernel
theorem dX10_addRow_58 : decode cX10_addRow 58 = .ok (.iload 6, 2) := by decide +kernel
theorem dX10_addRow_60 : decode cX10_addRow 60 = .ok (.invokestatic 172, 3) := by decide +kernel
theorem dX10_addRow_63 : decode cX10_addRow 63 = .ok (.imul, 1) := by decide +kernel
theorem dX10_addRow_64 : decode cX10_addRow 64 = .ok (.istore 7, 2) := by decide +kernel
theorem dX10_addRow_66 : decode cX10_addRow 66 = .ok (.aload_n 0, 1) := by decide +kernel
theorem dX10_addRow_67 : decode cX10_addRow 67 = .ok (.iload_n 1, 1) := by decide +kernel
theorem dX10_addRow_68 : decode cX10_addRow 68 = .ok (.iload 7, 2) := by decide +kernel
theorem dX10_addRow_70 : decode cX10_addRow 70 = .ok (.invokevirtual 176, 3) := by decide +kernel
theorem dX10_addRow_73 : decode cX10_addRow 73 = .ok (.istore 8, 2) := by decide +kernel
theorem dX10_addRow_75 : decode cX10_addRow 75 = .ok (.aload_n 0, 1) := by decide +kernel
theorem dX10_addRow_76 : decode cX10_addRow 76 = .ok (.getfield 10, 3) := by decide +kernel
theorem dX10_addRow_79 : decode cX10_addRow 79 = .ok (.getfield 169, 3) := by decide +kernel
theorem dX10_addRow_82 : decode cX10_addRow 82 = .ok (.new 180, 3) := by decide +kernel
theorem dX10_addRow_85 : decode cX10_addRow 85 = .ok (.dup, 1) := by decide +kernel
theorem dX10_addRow_86 : decode cX10_addRow 86 = .ok (.iload_n 1, 1) := by decide +kernel
theorem dX10_addRow_87 : decode cX10_addRow 87 = .ok (.iload 7, 2) := by decide +kernel
theorem dX10_addRow_89 : decode cX10_addRow 89 = .ok (.invokespecial 182, 3) := by decide +kernel
theorem dX10_addRow_92 : decode cX10_addRow 92 = .ok (.invokevirtual 56, 3) := by decide +kernel
theorem dX10_addRow_95 : decode cX10_addRow 95 = .ok (.pop, 1) := by decide +kernel
theorem dX10_addRow_96 : decode cX10_addRow 96 = .ok (.iload 8, 2) := by decide +kernel
theorem dX10_addRow_98 : decode cX10_addRow 98 = .ok (.ireturn, 1) := by decide +kernel
set_option maxRecDepth 20000 in
theorem ggX10_dropRow_X10_checkRow : GoodIn wsX10_dropRow wsX10_checkRow := goodIn_ca (goodIn_r _ [10, 11, 12, 1, 2, 13, 14, 15, 16, 17, 18, 19, 20, 9, 21, 62, 63, 64, 65, 66, 67, 68, 69, 70, 71, 74, 75, 76] (by decide +kernel) (by decide +kernel)) (goodIn_sub (fun _ h => List.mem_cons_of_mem _ (List.mem_append_left _ (List.mem_append_right _ h))) (by decide +kernel))
set_option maxRecDepth 20000 in
theorem gX10_dropRow_X10_checkRow : GoodIn wsX10_dropRow (wsV RX10 184 RX10 yX10_checkRow wsX10_checkRow) := goodIn_app (goodIn_of _ (by decide +kernel)) ggX10_dropRow_X10_checkRow
set_option maxRecDepth 20000 in
theorem ggX10_dropRow_Jx4a65c_get_915e3 : GoodIn wsX10_dropRow wsJx4a65c_get_915e3 := goodIn_r _ [25, 18, 26, 27, 28, 29, 30, 31, 32, 33, 34, 35, 36, 16, 37, 38, 74, 75, 76] (by decide +kernel) (by decide +kernel)
set_option maxRecDepth 20000 in
theorem gX10_dropRow_Jx4a65c_get_915e3 : GoodIn wsX10_dropRow (wsV RX10 63 RJx4a65c yJx4a65c_get_915e3 wsJx4a65c_get_915e3) := goodIn_app (goodIn_of _ (by decide +kernel)) ggX10_dropRow_Jx4a65c_get_915e3
set_option maxRecDepth 20000 in
theorem ggX10_dropRow_X10_changeQuantity : GoodIn wsX10_dropRow wsX10_changeQuantity := goodIn_ca (goodIn_r _ [42, 43, 44, 1, 45, 46, 47, 22, 23, 24, 16, 25, 18, 26, 27, 28, 29, 30, 31, 32, 33, 34, 35, 36, 37, 38, 62, 63, 64, 65, 66, 67, 68, 69, 70, 71, 77, 78, 74, 75, 76] (by decide +kernel) (by decide +kernel)) (goodIn_sub (fun _ h => List.mem_cons_of_mem _ (List.mem_append_right _ h)) (by decide +kernel))
set_option maxRecDepth 20000 in
theorem gX10_dropRow_X10_changeQuantity : GoodIn wsX10_dropRow (wsV RX10 176 RX10 yX10_changeQuantity wsX10_changeQuantity) := goodIn_app (goodIn_of _ (by decide +kernel)) ggX10_dropRow_X10_changeQuantity
set_option maxRecDepth 20000 in
theorem ggX10_dropRow_Jx4a65c_remove_915e3 : GoodIn wsX10_dropRow wsJx4a65c_remove_915e3 := goodIn_r _ [51, 18, 38, 26, 27, 28, 29, 30, 31, 32, 33, 52, 53, 54, 16, 55, 56, 57, 58, 59, 60, 61, 74, 75, 76] (by decide +kernel) (by decide +kernel)
set_option maxRecDepth 20000 in
theorem gX10_dropRow_Jx4a65c_remove_915e3 : GoodIn wsX10_dropRow (wsV RX10 193 RJx4a65c yJx4a65c_remove_915e3 wsJx4a65c_remove_915e3) := goodIn_app (goodIn_of _ (by decide +kernel)) ggX10_dropRow_Jx4a65c_remove_915e3
theorem dX10_dropRow_0 : decode cX10_dropRow 0 = .ok (.aload_n 0, 1) := by decide +kernel
theorem dX10_dropRow_1 : decode cX10_dropRow 1 = .ok (.iload_n 1, 1) := by decide +kernel
theorem dX10_dropRow_2 : decode cX10_dropRow 2 = .ok (.invokevirtual 184, 3) := by decide +kernel
theorem dX10_dropRow_5 : decode cX10_dropRow 5 = .ok (.aload_n 0, 1) := by decide +kernel
theorem dX10_dropRow_6 : decode cX10_dropRow 6 = .ok (.getfield 10, 3) := by decide +kernel
theorem dX10_dropRow_9 : decode cX10_dropRow 9 = .ok (.getfield 169, 3) := by decide +kernel
theorem dX10_dropRow_12 : decode cX10_dropRow 12 = .ok (.iload_n 1, 1) := by decide +kernel
theorem dX10_dropRow_13 : decode cX10_dropRow 13 = .ok (.invokevirtual 63, 3) := by decide +kernel
theorem dX10_dropRow_16 : decode cX10_dropRow 16 = .ok (.checkcast 180, 3) := by decide +kernel
theorem dX10_dropRow_19 : decode cX10_dropRow 19 = .ok (.astore_n 2, 1) := by decide +kernel
theorem dX10_dropRow_20 : decode cX10_dropRow 20 = .ok (.aload_n 0, 1) := by decide +kernel
theorem dX10_dropRow_21 : decode cX10_dropRow 21 = .ok (.aload_n 2, 1) := by decide +kernel
theorem dX10_dropRow_22 : decode cX10_dropRow 22 = .ok (.getfield 187, 3) := by decide +kernel
theorem dX10_dropRow_25 : decode cX10_dropRow 25 = .ok (.aload_n 2, 1) := by decide +kernel
theorem dX10_dropRow_26 : decode cX10_dropRow 26 = .ok (.getfield 190, 3) := by decide +kernel
theorem dX10_dropRow_29 : decode cX10_dropRow 29 = .ok (.ineg, 1) := by decide +kernel
theorem dX10_dropRow_30 : decode cX10_dropRow 30 = .ok (.invokevirtual 176, 3) := by decide +kernel
theorem dX10_dropRow_33 : decode cX10_dropRow 33 = .ok (.istore_n 3, 1) := by decide +kernel
theorem dX10_dropRow_34 : decode cX10_dropRow 34 = .ok (.aload_n 0, 1) := by decide +kernel
theorem dX10_dropRow_35 : decode cX10_dropRow 35 = .ok (.getfield 10, 3) := by decide +kernel
theorem dX10_dropRow_38 : decode cX10_dropRow 38 = .ok (.getfield 169, 3) := by decide +kernel
theorem dX10_dropRow_41 : decode cX10_dropRow 41 = .ok (.iload_n 1, 1) := by decide +kernel
theorem dX10_dropRow_42 : decode cX10_dropRow 42 = .ok (.invokevirtual 193, 3) := by decide +kernel
theorem dX10_dropRow_45 : decode cX10_dropRow 45 = .ok (.pop, 1) := by decide +kernel
theorem dX10_dropRow_46 : decode cX10_dropRow 46 = .ok (.iload_n 3, 1) := by decide +kernel
theorem dX10_dropRow_47 : decode cX10_dropRow 47 = .ok (.ireturn, 1) := by decide +kernel
set_option maxRecDepth 20000 in
theorem ggX10_measure_X10_checkRow : GoodIn wsX10_measure wsX10_checkRow := goodIn_ca (goodIn_r _ [9, 10, 11, 1, 2, 12, 13, 14, 15, 16, 17, 18, 19, 8, 20, 38, 39, 40, 41, 42, 43, 44, 45, 46, 47, 50, 51, 52] (by decide +kernel) (by decide +kernel)) (goodIn_sub (fun _ h => List.mem_cons_of_mem _ (List.mem_append_right _ h)) (by decide +kernel))
set_option maxRecDepth 20000 in
theorem gX10_measure_X10_checkRow : GoodIn wsX10_measure (wsV RX10 184 RX10 yX10_checkRow wsX10_checkRow) := goodIn_app (goodIn_of _ (by decide +kernel)) ggX10_measure_X10_checkRow
set_option maxRecDepth 20000 in
theorem ggX10_measure_Jx4a65c_get_915e3 : GoodIn wsX10_measure wsJx4a65c_get_915e3 := goodIn_r _ [24, 17, 25, 26, 27, 28, 29, 30, 31, 32, 33, 34, 35, 15, 36, 37, 50, 51, 52] (by decide +kernel) (by decide +kernel)
set_option maxRecDepth 20000 in
theorem gX10_measure_Jx4a65c_get_915e3 : GoodIn wsX10_measure (wsV RX10 63 RJx4a65c yJx4a65c_get_915e3 wsJx4a65c_get_915e3) := goodIn_app (goodIn_of _ (by decide +kernel)) ggX10_measure_Jx4a65c_get_915e3
theorem dX10_measure_0 : decode cX10_measure 0 = .ok (.aload_n 0, 1) := by decide +kernel
theorem dX10_measure_1 : decode cX10_measure 1 = .ok (.iload_n 1, 1) := by decide +kernel
theorem dX10_measure_2 : decode cX10_measure 2 = .ok (.invokevirtual 184, 3) := by decide +kernel
theorem dX10_measure_5 : decode cX10_measure 5 = .ok (.aload_n 0, 1) := by decide +kernel
theorem dX10_measure_6 : decode cX10_measure 6 = .ok (.getfield 10, 3) := by decide +kernel
theorem dX10_measure_9 : decode cX10_measure 9 = .ok (.getfield 169, 3) := by decide +kernel
theorem dX10_measure_12 : decode cX10_measure 12 = .ok (.iload_n 1, 1) := by decide +kernel
theorem dX10_measure_13 : decode cX10_measure 13 = .ok (.invokevirtual 63, 3) := by decide +kernel
theorem dX10_measure_16 : decode cX10_measure 16 = .ok (.checkcast 180, 3) := by decide +kernel
theorem dX10_measure_19 : decode cX10_measure 19 = .ok (.getfield 190, 3) := by decide +kernel
theorem dX10_measure_22 : decode cX10_measure 22 = .ok (.ireturn, 1) := by decide +kernel
set_option maxRecDepth 20000 in
theorem ggX10_quantity_X10_checkLine : GoodIn wsX10_quantity wsX10_checkLine := goodIn_ca (goodIn_r _ [9, 10, 11, 1, 2, 12, 13, 14, 15, 16, 17, 18, 19, 8, 20, 38, 39, 40, 41, 42, 43, 44, 45, 46, 47, 50, 51, 52] (by decide +kernel) (by decide +kernel)) (goodIn_sub (fun _ h => List.mem_cons_of_mem _ (List.mem_append_right _ h)) (by decide +kernel))
set_option maxRecDepth 20000 in
theorem gX10_quantity_X10_checkLine : GoodIn wsX10_quantity (wsV RX10 159 RX10 yX10_checkLine wsX10_checkLine) := goodIn_app (goodIn_of _ (by decide +kernel)) ggX10_quantity_X10_checkLine
set_option maxRecDepth 20000 in
theorem ggX10_quantity_Jx4a65c_get_915e3 : GoodIn wsX10_quantity wsJx4a65c_get_915e3 := goodIn_r _ [24, 17, 25, 26, 27, 28, 29, 30, 31, 32, 33, 34, 35, 15, 36, 37, 50, 51, 52] (by decide +kernel) (by decide +kernel)
set_option maxRecDepth 20000 in
theorem gX10_quantity_Jx4a65c_get_915e3 : GoodIn wsX10_quantity (wsV RX10 63 RJx4a65c yJx4a65c_get_915e3 wsJx4a65c_get_915e3) := goodIn_app (goodIn_of _ (by decide +kernel)) ggX10_quantity_Jx4a65c_get_915e3
theorem dX10_quantity_0 : decode cX10_quantity 0 = .ok (.aload_n 0, 1) := by decide +kernel
theorem dX10_quantity_1 : decode cX10_quantity 1 = .ok (.iload_n 1, 1) := by decide +kernel
theorem dX10_quantity_2 : decode cX10_quantity 2 = .ok (.invokevirtual 159, 3) := by decide +kernel
theorem dX10_quantity_5 : decode cX10_quantity 5 = .ok (.aload_n 0, 1) := by decide +kernel
theorem dX10_quantity_6 : decode cX10_quantity 6 = .ok (.getfield 10, 3) := by decide +kernel
theorem dX10_quantity_9 : decode cX10_quantity 9 = .ok (.getfield 153, 3) := by decide +kernel
theorem dX10_quantity_12 : decode cX10_quantity 12 = .ok (.iload_n 1, 1) := by decide +kernel
theorem dX10_quantity_13 : decode cX10_quantity 13 = .ok (.invokevirtual 63, 3) := by decide +kernel
theorem dX10_quantity_16 : decode cX10_quantity 16 = .ok (.checkcast 156, 3) := by decide +kernel
theorem dX10_quantity_19 : decode cX10_quantity 19 = .ok (.getfield 196, 3) := by decide +kernel
theorem dX10_quantity_22 : decode cX10_quantity 22 = .ok (.ireturn, 1) := by decide +kernel
set_option maxRecDepth 20000 in
theorem ggX10_addVariant_Jx4a65c_size_8abf5 : GoodIn wsX10_addVariant wsJx4a65c_size_8abf5 := goodIn_r _ [10, 11, 96, 97, 98] (by decide +kernel) (by decide +kernel)
set_option maxRecDepth 20000 in
theorem gX10_addVariant_Jx4a65c_size_8abf5 : GoodIn wsX10_addVariant (wsV RX10 41 RJx4a65c yJx4a65c_size_8abf5 wsJx4a65c_size_8abf5) := goodIn_app (goodIn_of _ (by decide +kernel)) ggX10_addVariant_Jx4a65c_size_8abf5
set_option maxRecDepth 20000 in
theorem ggX10_addVariant_X10_checkRoom : GoodIn wsX10_addVariant wsX10_checkRoom := goodIn_ca (goodIn_r _ [15, 16, 17] (by decide +kernel) (by decide +kernel)) (goodIn_sub (fun _ h => List.mem_cons_of_mem _ (List.mem_append_right _ h)) (by decide +kernel))
set_option maxRecDepth 20000 in
theorem gX10_addVariant_X10_checkRoom : GoodIn wsX10_addVariant (va_wsS RX10 47 yX10_checkRoom wsX10_checkRoom) := goodIn_app (goodIn_of _ (by decide +kernel)) ggX10_addVariant_X10_checkRoom
set_option maxRecDepth 20000 in
theorem ggX10_addVariant_X9_init : GoodIn wsX10_addVariant wsX9_init := goodIn_r _ [20, 21, 22, 23, 24, 25, 26, 27, 28, 29, 30, 94, 95] (by decide +kernel) (by decide +kernel)
set_option maxRecDepth 20000 in
theorem gX10_addVariant_X9_init : GoodIn wsX10_addVariant (wsX9_init) := ggX10_addVariant_X9_init
set_option maxRecDepth 20000 in
theorem ggX10_addVariant_Jx4a65c_add_9ea2d : GoodIn wsX10_addVariant wsJx4a65c_add_9ea2d := goodIn_r _ [34, 35, 36, 37, 11, 38, 39, 40, 9, 41, 42, 43, 44, 45, 46, 47, 48, 49, 50, 51, 52, 53, 54, 55, 56, 57, 58, 59, 60, 61, 62, 63, 64, 65, 66, 29, 67, 68, 69, 70, 71, 72, 73, 74, 75, 76, 77, 78, 79, 80, 81, 82, 83, 96, 97, 98] (by decide +kernel) (by decide +kernel)
set_option maxRecDepth 20000 in
theorem gX10_addVariant_Jx4a65c_add_9ea2d : GoodIn wsX10_addVariant (wsV RX10 56 RJx4a65c yJx4a65c_add_9ea2d wsJx4a65c_add_9ea2d) := goodIn_app (goodIn_of _ (by decide +kernel)) ggX10_addVariant_Jx4a65c_add_9ea2d
theorem dX10_addVariant_0 : decode cX10_addVariant 0 = .ok (.aload_n 0, 1) := by decide +kernel
theorem dX10_addVariant_1 : decode cX10_addVariant 1 = .ok (.getfield 10, 3) := by decide +kernel
theorem dX10_addVariant_4 : decode cX10_addVariant 4 = .ok (.getfield 199, 3) := by decide +kernel
theorem dX10_addVariant_7 : decode cX10_addVariant 7 = .ok (.invokevirtual 41, 3) := by decide +kernel
theorem dX10_addVariant_10 : decode cX10_addVariant 10 = .ok (.iconst 4, 1) := by decide +kernel
theorem dX10_addVariant_11 : decode cX10_addVariant 11 = .ok (.invokestatic 47, 3) := by decide +kernel
theorem dX10_addVariant_14 : decode cX10_addVariant 14 = .ok (.aload_n 0, 1) := by decide +kernel
theorem dX10_addVariant_15 : decode cX10_addVariant 15 = .ok (.getfield 10, 3) := by decide +kernel
theorem dX10_addVariant_18 : decode cX10_addVariant 18 = .ok (.getfield 199, 3) := by decide +kernel
theorem dX10_addVariant_21 : decode cX10_addVariant 21 = .ok (.new 202, 3) := by decide +kernel
theorem dX10_addVariant_24 : decode cX10_addVariant 24 = .ok (.dup, 1) := by decide +kernel
theorem dX10_addVariant_25 : decode cX10_addVariant 25 = .ok (.invokespecial 204, 3) := by decide +kernel
theorem dX10_addVariant_28 : decode cX10_addVariant 28 = .ok (.invokevirtual 56, 3) := by decide +kernel
theorem dX10_addVariant_31 : decode cX10_addVariant 31 = .ok (.pop, 1) := by decide +kernel
theorem dX10_addVariant_32 : decode cX10_addVariant 32 = .ok (.aload_n 0, 1) := by decide +kernel
theorem dX10_addVariant_33 : decode cX10_addVariant 33 = .ok (.getfield 10, 3) := by decide +kernel
theorem dX10_addVariant_36 : decode cX10_addVariant 36 = .ok (.getfield 199, 3) := by decide +kernel
theorem dX10_addVariant_39 : decode cX10_addVariant 39 = .ok (.invokevirtual 41, 3) := by decide +kernel
theorem dX10_addVariant_42 : decode cX10_addVariant 42 = .ok (.iconst 1, 1) := by decide +kernel
theorem dX10_addVariant_43 : decode cX10_addVariant 43 = .ok (.isub, 1) := by decide +kernel
theorem dX10_addVariant_44 : decode cX10_addVariant 44 = .ok (.ireturn, 1) := by decide +kernel
set_option maxRecDepth 20000 in
theorem ggX10_replaceItem_X10_checkVariant : GoodIn wsX10_replaceItem wsX10_checkVariant := goodIn_ca (goodIn_r _ [11, 12, 13, 3, 4, 14, 15, 16, 17, 18, 19, 20, 21, 10, 22, 58, 59, 60, 61, 62, 63, 64, 65, 66, 67, 70, 71, 72] (by decide +kernel) (by decide +kernel)) (goodIn_sub (fun _ h => List.mem_cons_of_mem _ (List.mem_append_left _ (List.mem_append_right _ h))) (by decide +kernel))
set_option maxRecDepth 20000 in
theorem gX10_replaceItem_X10_checkVariant : GoodIn wsX10_replaceItem (wsV RX10 205 RX10 yX10_checkVariant wsX10_checkVariant) := goodIn_app (goodIn_of _ (by decide +kernel)) ggX10_replaceItem_X10_checkVariant
set_option maxRecDepth 20000 in
theorem ggX10_replaceItem_X10_checkItem : GoodIn wsX10_replaceItem wsX10_checkItem := goodIn_ca (goodIn_r _ [26, 12, 13, 3, 27, 14, 15, 16, 17, 18, 19, 20, 21, 10, 22, 58, 59, 60, 61, 62, 63, 64, 65, 66, 67, 70, 71, 72] (by decide +kernel) (by decide +kernel)) (goodIn_sub (fun _ h => List.mem_cons_of_mem _ (List.mem_append_left _ (List.mem_append_right _ h))) (by decide +kernel))
set_option maxRecDepth 20000 in
theorem gX10_replaceItem_X10_checkItem : GoodIn wsX10_replaceItem (wsV RX10 110 RX10 yX10_checkItem wsX10_checkItem) := goodIn_app (goodIn_of _ (by decide +kernel)) ggX10_replaceItem_X10_checkItem
set_option maxRecDepth 20000 in
theorem ggX10_replaceItem_X10_checkOff : GoodIn wsX10_replaceItem wsX10_checkOff := goodIn_ca (goodIn_r _ [31, 32, 33, 34, 35, 36, 10, 37, 58, 59, 60] (by decide +kernel) (by decide +kernel)) (goodIn_sub (fun _ h => List.mem_cons_of_mem _ (List.mem_append_right _ h)) (by decide +kernel))
set_option maxRecDepth 20000 in
theorem gX10_replaceItem_X10_checkOff : GoodIn wsX10_replaceItem (wsV RX10 213 RX10 yX10_checkOff wsX10_checkOff) := goodIn_app (goodIn_of _ (by decide +kernel)) ggX10_replaceItem_X10_checkOff
set_option maxRecDepth 20000 in
theorem ggX10_replaceItem_Jx4a65c_get_915e3 : GoodIn wsX10_replaceItem wsJx4a65c_get_915e3 := goodIn_r _ [41, 19, 42, 43, 44, 45, 46, 47, 48, 49, 50, 51, 52, 17, 53, 54, 70, 71, 72] (by decide +kernel) (by decide +kernel)
set_option maxRecDepth 20000 in
theorem gX10_replaceItem_Jx4a65c_get_915e3 : GoodIn wsX10_replaceItem (wsV RX10 63 RJx4a65c yJx4a65c_get_915e3 wsJx4a65c_get_915e3) := goodIn_app (goodIn_of _ (by decide +kernel)) ggX10_replaceItem_Jx4a65c_get_915e3
set_option maxRecDepth 20000 in
theorem ggX10_replaceItem_X10_countReplaced : GoodIn wsX10_replaceItem wsX10_countReplaced := goodIn_ca (goodIn_r _ [57] (by decide +kernel) (by decide +kernel)) (goodIn_sub (fun _ h => List.mem_cons_of_mem _ (List.mem_append_left _ (List.mem_append_left _ (List.mem_append_right _ h)))) (by decide +kernel))
set_option maxRecDepth 20000 in
theorem gX10_replaceItem_X10_countReplaced : GoodIn wsX10_replaceItem (va_wsS RX10 219 yX10_countReplaced wsX10_countReplaced) := goodIn_app (goodIn_of _ (by decide +kernel)) ggX10_replaceItem_X10_countReplaced
theorem dX10_replaceItem_0 : decode cX10_replaceItem 0 = .ok (.aload_n 0, 1) := by decide +kernel
theorem dX10_replaceItem_1 : decode cX10_replaceItem 1 = .ok (.iload_n 1, 1) := by decide +kernel
theorem dX10_replaceItem_2 : decode cX10_replaceItem 2 = .ok (.invokevirtual 205, 3) := by decide +kernel
theorem dX10_replaceItem_5 : decode cX10_replaceItem 5 = .ok (.aload_n 0, 1) := by decide +kernel
theorem dX10_replaceItem_6 : decode cX10_replaceItem 6 = .ok (.iload_n 2, 1) := by decide +kernel
theorem dX10_replaceItem_7 : decode cX10_replaceItem 7 = .ok (.invokevirtual 110, 3) := by decide +kernel
theorem dX10_replaceItem_10 : decode cX10_replaceItem 10 = .ok (.aload_n 0, 1) := by decide +kernel
theorem dX10_replaceItem_11 : decode cX10_replaceItem 11 = .ok (.iload_n 3, 1) := by decide +kernel
theorem dX10_replaceItem_12 : decode cX10_replaceItem 12 = .ok (.invokevirtual 110, 3) := by decide +kernel
theorem dX10_replaceItem_15 : decode cX10_replaceItem 15 = .ok (.iload_n 2, 1) := by decide +kernel
theorem dX10_replaceItem_16 : decode cX10_replaceItem 16 = .ok (.iload_n 3, 1) := by decide +kernel
theorem dX10_replaceItem_17 : decode cX10_replaceItem 17 = .ok (.if_icmp .ne 13, 3) := by decide +kernel
theorem dX10_replaceItem_20 : decode cX10_replaceItem 20 = .ok (.new 208, 3) := by decide +kernel
theorem dX10_replaceItem_23 : decode cX10_replaceItem 23 = .ok (.dup, 1) := by decide +kernel
theorem dX10_replaceItem_24 : decode cX10_replaceItem 24 = .ok (.ldc 210, 2) := by decide +kernel
theorem dX10_replaceItem_26 : decode cX10_replaceItem 26 = .ok (.invokespecial 212, 3) := by decide +kernel
theorem dX10_replaceItem_29 : decode cX10_replaceItem 29 = .ok (.athrow, 1) := by decide +kernel
theorem dX10_replaceItem_30 : decode cX10_replaceItem 30 = .ok (.aload_n 0, 1) := by decide +kernel
theorem dX10_replaceItem_31 : decode cX10_replaceItem 31 = .ok (.iload_n 1, 1) := by decide +kernel
theorem dX10_replaceItem_32 : decode cX10_replaceItem 32 = .ok (.invokevirtual 213, 3) := by decide +kernel
theorem dX10_replaceItem_35 : decode cX10_replaceItem 35 = .ok (.aload_n 0, 1) := by decide +kernel
theorem dX10_replaceItem_36 : decode cX10_replaceItem 36 = .ok (.getfield 10, 3) := by decide +kernel
theorem dX10_replaceItem_39 : decode cX10_replaceItem 39 = .ok (.getfield 199, 3) := by decide +kernel
theorem dX10_replaceItem_42 : decode cX10_replaceItem 42 = .ok (.iload_n 1, 1) := by decide +kernel
theorem dX10_replaceItem_43 : decode cX10_replaceItem 43 = .ok (.invokevirtual 63, 3) := by decide +kernel
theorem dX10_replaceItem_46 : decode cX10_replaceItem 46 = .ok (.checkcast 202, 3) := by decide +kernel
theorem dX10_replaceItem_49 : decode cX10_replaceItem 49 = .ok (.astore 4, 2) := by decide +kernel
theorem dX10_replaceItem_51 : decode cX10_replaceItem 51 = .ok (.aload 4, 2) := by decide +kernel
theorem dX10_replaceItem_53 : decode cX10_replaceItem 53 = .ok (.getfield 216, 3) := by decide +kernel
theorem dX10_replaceItem_56 : decode cX10_replaceItem 56 = .ok (.iload_n 2, 1) := by decide +kernel
theorem dX10_replaceItem_57 : decode cX10_replaceItem 57 = .ok (.iload_n 3, 1) := by decide +kernel
theorem dX10_replaceItem_58 : decode cX10_replaceItem 58 = .ok (.iastore, 1) := by decide +kernel
theorem dX10_replaceItem_59 : decode cX10_replaceItem 59 = .ok (.aload 4, 2) := by decide +kernel
theorem dX10_replaceItem_61 : decode cX10_replaceItem 61 = .ok (.getfield 216, 3) := by decide +kernel
theorem dX10_replaceItem_64 : decode cX10_replaceItem 64 = .ok (.invokestatic 219, 3) := by decide +kernel
theorem dX10_replaceItem_67 : decode cX10_replaceItem 67 = .ok (.ireturn, 1) := by decide +kernel
set_option maxRecDepth 20000 in
theorem ggX10_replaceResource_X10_checkVariant : GoodIn wsX10_replaceResource wsX10_checkVariant := goodIn_ca (goodIn_r _ [14, 15, 16, 3, 7, 17, 18, 19, 20, 21, 22, 23, 24, 13, 25, 60, 61, 62, 63, 64, 65, 66, 67, 68, 69, 76, 77, 78] (by decide +kernel) (by decide +kernel)) (goodIn_sub (fun _ h => List.mem_cons_of_mem _ (List.mem_append_left _ (List.mem_append_right _ h))) (by decide +kernel))
set_option maxRecDepth 20000 in
theorem gX10_replaceResource_X10_checkVariant : GoodIn wsX10_replaceResource (wsV RX10 205 RX10 yX10_checkVariant wsX10_checkVariant) := goodIn_app (goodIn_of _ (by decide +kernel)) ggX10_replaceResource_X10_checkVariant
set_option maxRecDepth 20000 in
theorem ggX10_replaceResource_X10_checkResource : GoodIn wsX10_replaceResource wsX10_checkResource := goodIn_ca (goodIn_r _ [29, 15, 16, 3, 4, 17, 18, 19, 20, 21, 22, 23, 24, 13, 25, 60, 61, 62, 63, 64, 65, 66, 67, 68, 69, 76, 77, 78] (by decide +kernel) (by decide +kernel)) (goodIn_sub (fun _ h => List.mem_cons_of_mem _ (List.mem_append_left _ (List.mem_append_right _ h))) (by decide +kernel))
set_option maxRecDepth 20000 in
theorem gX10_replaceResource_X10_checkResource : GoodIn wsX10_replaceResource (wsV RX10 60 RX10 yX10_checkResource wsX10_checkResource) := goodIn_app (goodIn_of _ (by decide +kernel)) ggX10_replaceResource_X10_checkResource
set_option maxRecDepth 20000 in
theorem ggX10_replaceResource_Jx4a65c_get_915e3 : GoodIn wsX10_replaceResource wsJx4a65c_get_915e3 := goodIn_r _ [33, 22, 34, 35, 36, 37, 38, 39, 40, 41, 42, 43, 44, 20, 45, 46, 76, 77, 78] (by decide +kernel) (by decide +kernel)
set_option maxRecDepth 20000 in
theorem gX10_replaceResource_Jx4a65c_get_915e3 : GoodIn wsX10_replaceResource (wsV RX10 63 RJx4a65c yJx4a65c_get_915e3 wsJx4a65c_get_915e3) := goodIn_app (goodIn_of _ (by decide +kernel)) ggX10_replaceResource_Jx4a65c_get_915e3
set_option maxRecDepth 20000 in
theorem ggX10_replaceResource_X10_checkOff : GoodIn wsX10_replaceResource wsX10_checkOff := goodIn_ca (goodIn_r _ [50, 51, 52, 53, 54, 55, 13, 56, 60, 61, 62] (by decide +kernel) (by decide +kernel)) (goodIn_sub (fun _ h => List.mem_cons_of_mem _ (List.mem_append_right _ h)) (by decide +kernel))
set_option maxRecDepth 20000 in
theorem gX10_replaceResource_X10_checkOff : GoodIn wsX10_replaceResource (wsV RX10 213 RX10 yX10_checkOff wsX10_checkOff) := goodIn_app (goodIn_of _ (by decide +kernel)) ggX10_replaceResource_X10_checkOff
set_option maxRecDepth 20000 in
theorem ggX10_replaceResource_X10_countReplaced : GoodIn wsX10_replaceResource wsX10_countReplaced := goodIn_ca (goodIn_r _ [59] (by decide +kernel) (by decide +kernel)) (goodIn_sub (fun _ h => List.mem_cons_of_mem _ (List.mem_append_left _ (List.mem_append_left _ (List.mem_append_right _ h)))) (by decide +kernel))
set_option maxRecDepth 20000 in
theorem gX10_replaceResource_X10_countReplaced : GoodIn wsX10_replaceResource (va_wsS RX10 219 yX10_countReplaced wsX10_countReplaced) := goodIn_app (goodIn_of _ (by decide +kernel)) ggX10_replaceResource_X10_countReplaced
theorem dX10_replaceResource_0 : decode cX10_replaceResource 0 = .ok (.aload_n 0, 1) := by decide +kernel
theorem dX10_replaceResource_1 : decode cX10_replaceResource 1 = .ok (.iload_n 1, 1) := by decide +kernel
theorem dX10_replaceResource_2 : decode cX10_replaceResource 2 = .ok (.invokevirtual 205, 3) := by decide +kernel
theorem dX10_replaceResource_5 : decode cX10_replaceResource 5 = .ok (.aload_n 0, 1) := by decide +kernel
theorem dX10_replaceResource_6 : decode cX10_replaceResource 6 = .ok (.iload_n 2, 1) := by decide +kernel
theorem dX10_replaceResource_7 : decode cX10_replaceResource 7 = .ok (.invokevirtual 60, 3) := by decide +kernel
theorem dX10_replaceResource_10 : decode cX10_replaceResource 10 = .ok (.aload_n 0, 1) := by decide +kernel
theorem dX10_replaceResource_11 : decode cX10_replaceResource 11 = .ok (.iload_n 3, 1) := by decide +kernel
theorem dX10_replaceResource_12 : decode cX10_replaceResource 12 = .ok (.invokevirtual 60, 3) := by decide +kernel
theorem dX10_replaceResource_15 : decode cX10_replaceResource 15 = .ok (.iload_n 2, 1) := by decide +kernel
theorem dX10_replaceResource_16 : decode cX10_replaceResource 16 = .ok (.iload_n 3, 1) := by decide +kernel
theorem dX10_replaceResource_17 : decode cX10_replaceResource 17 = .ok (.if_icmp .ne 13, 3) := by decide +kernel
theorem dX10_replaceResource_20 : decode cX10_replaceResource 20 = .ok (.new 208, 3) := by decide +kernel
theorem dX10_replaceResource_23 : decode cX10_replaceResource 23 = .ok (.dup, 1) := by decide +kernel
theorem dX10_replaceResource_24 : decode cX10_replaceResource 24 = .ok (.ldc 223, 2) := by decide +kernel
theorem dX10_replaceResource_26 : decode cX10_replaceResource 26 = .ok (.invokespecial 212, 3) := by decide +kernel
theorem dX10_replaceResource_29 : decode cX10_replaceResource 29 = .ok (.athrow, 1) := by decide +kernel
theorem dX10_replaceResource_30 : decode cX10_replaceResource 30 = .ok (.aload_n 0, 1) := by decide +kernel
theorem dX10_replaceResource_31 : decode cX10_replaceResource 31 = .ok (.getfield 10, 3) := by decide +kernel
theorem dX10_replaceResource_34 : decode cX10_replaceResource 34 = .ok (.getfield 37, 3) := by decide +kernel
theorem dX10_replaceResource_37 : decode cX10_replaceResource 37 = .ok (.iload_n 2, 1) := by decide +kernel
theorem dX10_replaceResource_38 : decode cX10_replaceResource 38 = .ok (.invokevirtual 63, 3) := by decide +kernel
theorem dX10_replaceResource_41 : decode cX10_replaceResource 41 = .ok (.checkcast 51, 3) := by decide +kernel
theorem dX10_replaceResource_44 : decode cX10_replaceResource 44 = .ok (.getfield 79, 3) := by decide +kernel
theorem dX10_replaceResource_47 : decode cX10_replaceResource 47 = .ok (.aload_n 0, 1) := by decide +kernel
theorem dX10_replaceResource_48 : decode cX10_replaceResource 48 = .ok (.getfield 10, 3) := by decide +kernel
theorem dX10_replaceResource_51 : decode cX10_replaceResource 51 = .ok (.getfield 37, 3) := by decide +kernel
theorem dX10_replaceResource_54 : decode cX10_replaceResource 54 = .ok (.iload_n 3, 1) := by decide +kernel
theorem dX10_replaceResource_55 : decode cX10_replaceResource 55 = .ok (.invokevirtual 63, 3) := by decide +kernel
theorem dX10_replaceResource_58 : decode cX10_replaceResource 58 = .ok (.checkcast 51, 3) := by decide +kernel
theorem dX10_replaceResource_61 : decode cX10_replaceResource 61 = .ok (.getfield 79, 3) := by decide +kernel
theorem dX10_replaceResource_64 : decode cX10_replaceResource 64 = .ok (.if_icmp .eq 13, 3) := by decide +kernel
theorem dX10_replaceResource_67 : decode cX10_replaceResource 67 = .ok (.new 208, 3) := by decide +kernel
theorem dX10_replaceResource_70 : decode cX10_replaceResource 70 = .ok (.dup, 1) := by decide +kernel
theorem dX10_replaceResource_71 : decode cX10_replaceResource 71 = .ok (.ldc 225, 2) := by decide +kernel
theorem dX10_replaceResource_73 : decode cX10_replaceResource 73 = .ok (.invokespecial 212, 3) := by decide +kernel
theorem dX10_replaceResource_76 : decode cX10_replaceResource 76 = .ok (.athrow, 1) := by decide +kernel
theorem dX10_replaceResource_77 : decode cX10_replaceResource 77 = .ok (.aload_n 0, 1) := by decide +kernel
theorem dX10_replaceResource_78 : decode cX10_replaceResource 78 = .ok (.iload_n 1, 1) := by decide +kernel
theorem dX10_replaceResource_79 : decode cX10_replaceResource 79 = .ok (.invokevirtual 213, 3) := by decide +kernel
theorem dX10_replaceResource_82 : decode cX10_replaceResource 82 = .ok (.aload_n 0, 1) := by decide +kernel
theorem dX10_replaceResource_83 : decode cX10_replaceResource 83 = .ok (.getfield 10, 3) := by decide +kernel
theorem dX10_replaceResource_86 : decode cX10_replaceResource 86 = .ok (.getfield 199, 3) := by decide +kernel
theorem dX10_replaceResource_89 : decode cX10_replaceResource 89 = .ok (.iload_n 1, 1) := by decide +kernel
theorem dX10_replaceResource_90 : decode cX10_replaceResource 90 = .ok (.invokevirtual 63, 3) := by decide +kernel
theorem dX10_replaceResource_93 : decode cX10_replaceResource 93 = .ok (.checkcast 202, 3) := by decide +kernel
theorem dX10_replaceResource_96 : decode cX10_replaceResource 96 = .ok (.astore 4, 2) := by decide +kernel
theorem dX10_replaceResource_98 : decode cX10_replaceResource 98 = .ok (.aload 4, 2) := by decide +kernel
theorem dX10_replaceResource_100 : decode cX10_replaceResource 100 = .ok (.getfield 227, 3) := by decide +kernel
theorem dX10_replaceResource_103 : decode cX10_replaceResource 103 = .ok (.iload_n 2, 1) := by decide +kernel
theorem dX10_replaceResource_104 : decode cX10_replaceResource 104 = .ok (.iload_n 3, 1) := by decide +kernel
theorem dX10_replaceResource_105 : decode cX10_replaceResource 105 = .ok (.iastore, 1) := by decide +kernel
theorem dX10_replaceResource_106 : decode cX10_replaceResource 106 = .ok (.aload 4, 2) := by decide +kernel
theorem dX10_replaceResource_108 : decode cX10_replaceResource 108 = .ok (.getfield 227, 3) := by decide +kernel
theorem dX10_replaceResource_111 : decode cX10_replaceResource 111 = .ok (.invokestatic 219, 3) := by decide +kernel
theorem dX10_replaceResource_114 : decode cX10_replaceResource 114 = .ok (.ireturn, 1) := by decide +kernel
set_option maxRecDepth 20000 in
theorem ggX10_turn_X10_checkVariant : GoodIn wsX10_turn wsX10_checkVariant := goodIn_ca (goodIn_r _ [6, 7, 8, 9, 10, 11, 12, 13, 14, 15, 16, 17, 18, 5, 19, 92, 93, 94, 95, 96, 97, 98, 99, 100, 101, 102, 103, 104] (by decide +kernel) (by decide +kernel)) (goodIn_sub (fun _ h => List.mem_cons_of_mem _ (List.mem_append_left _ (List.mem_append_left _ (List.mem_append_right _ h)))) (by decide +kernel))
set_option maxRecDepth 20000 in
theorem gX10_turn_X10_checkVariant : GoodIn wsX10_turn (wsV RX10 205 RX10 yX10_checkVariant wsX10_checkVariant) := goodIn_app (goodIn_of _ (by decide +kernel)) ggX10_turn_X10_checkVariant
set_option maxRecDepth 20000 in
theorem ggX10_turn_X10_hasBit : GoodIn wsX10_turn wsX10_hasBit := goodIn_r _ [22] (by decide +kernel) (by decide +kernel)
set_option maxRecDepth 20000 in
theorem gX10_turn_X10_hasBit : GoodIn wsX10_turn (va_wsS RX10 230 yX10_hasBit wsX10_hasBit) := goodIn_app (goodIn_of _ (by decide +kernel)) ggX10_turn_X10_hasBit
set_option maxRecDepth 20000 in
theorem ggX10_turn_X10_checkFits : GoodIn wsX10_turn wsX10_checkFits := goodIn_ca (goodIn_ca (goodIn_r _ [26, 27, 28, 29, 30, 31, 32, 33, 34, 35, 36, 37, 38, 39, 40, 12, 13, 14, 15, 16, 41, 42, 43, 44, 45, 46, 47, 48, 49, 50, 51, 52, 53, 54, 55, 56, 57, 58, 59, 60, 61, 62, 63, 64, 21, 5, 22, 65, 66, 67, 68, 69, 70, 71, 72, 73, 74, 75, 76, 77, 78, 79, 80, 81, 82, 83, 84, 85, 86, 87, 88, 89, 90, 91, 92, 93, 94, 105, 106, 107, 108, 109, 110, 111, 112, 113, 95, 96, 97, 98, 99, 100, 101, 102, 103, 104, 114, 115, 116, 117, 118, 119, 120] (by decide +kernel) (by decide +kernel)) (goodIn_sub (fun _ h => List.mem_cons_of_mem _ (List.mem_append_left _ (List.mem_append_right _ h))) (by decide +kernel))) (goodIn_sub (fun _ h => List.mem_cons_of_mem _ (List.mem_append_right _ h)) (by decide +kernel))
set_option maxRecDepth 20000 in
theorem gX10_turn_X10_checkFits : GoodIn wsX10_turn (wsV RX10 234 RX10 yX10_checkFits wsX10_checkFits) := goodIn_app (goodIn_of _ (by decide +kernel)) ggX10_turn_X10_checkFits
theorem dX10_turn_0 : decode cX10_turn 0 = .ok (.aload_n 0, 1) := by decide +kernel
theorem dX10_turn_1 : decode cX10_turn 1 = .ok (.iload_n 1, 1) := by decide +kernel
theorem dX10_turn_2 : decode cX10_turn 2 = .ok (.invokevirtual 205, 3) := by decide +kernel
theorem dX10_turn_5 : decode cX10_turn 5 = .ok (.aload_n 0, 1) := by decide +kernel
theorem dX10_turn_6 : decode cX10_turn 6 = .ok (.getfield 25, 3) := by decide +kernel
theorem dX10_turn_9 : decode cX10_turn 9 = .ok (.iload_n 1, 1) := by decide +kernel
theorem dX10_turn_10 : decode cX10_turn 10 = .ok (.invokestatic 230, 3) := by decide +kernel
theorem dX10_turn_13 : decode cX10_turn 13 = .ok (.istore_n 3, 1) := by decide +kernel
theorem dX10_turn_14 : decode cX10_turn 14 = .ok (.iload_n 3, 1) := by decide +kernel
theorem dX10_turn_15 : decode cX10_turn 15 = .ok (.iload_n 2, 1) := by decide +kernel
theorem dX10_turn_16 : decode cX10_turn 16 = .ok (.if_icmp .eq 25, 3) := by decide +kernel
theorem dX10_turn_19 : decode cX10_turn 19 = .ok (.aload_n 0, 1) := by decide +kernel
theorem dX10_turn_20 : decode cX10_turn 20 = .ok (.getfield 25, 3) := by decide +kernel
theorem dX10_turn_23 : decode cX10_turn 23 = .ok (.iconst 1, 1) := by decide +kernel
theorem dX10_turn_24 : decode cX10_turn 24 = .ok (.iload_n 1, 1) := by decide +kernel
theorem dX10_turn_25 : decode cX10_turn 25 = .ok (.ishl, 1) := by decide +kernel
theorem dX10_turn_26 : decode cX10_turn 26 = .ok (.ixor, 1) := by decide +kernel
theorem dX10_turn_27 : decode cX10_turn 27 = .ok (.istore 4, 2) := by decide +kernel
theorem dX10_turn_29 : decode cX10_turn 29 = .ok (.aload_n 0, 1) := by decide +kernel
theorem dX10_turn_30 : decode cX10_turn 30 = .ok (.iload 4, 2) := by decide +kernel
theorem dX10_turn_32 : decode cX10_turn 32 = .ok (.invokevirtual 234, 3) := by decide +kernel
theorem dX10_turn_35 : decode cX10_turn 35 = .ok (.aload_n 0, 1) := by decide +kernel
theorem dX10_turn_36 : decode cX10_turn 36 = .ok (.iload 4, 2) := by decide +kernel
theorem dX10_turn_38 : decode cX10_turn 38 = .ok (.putfield 25, 3) := by decide +kernel
theorem dX10_turn_41 : decode cX10_turn 41 = .ok (.iload_n 3, 1) := by decide +kernel
theorem dX10_turn_42 : decode cX10_turn 42 = .ok (.ireturn, 1) := by decide +kernel
set_option maxRecDepth 20000 in
theorem ggX10_difference_X10_checkVariant : GoodIn wsX10_difference wsX10_checkVariant := goodIn_ca (goodIn_r _ [7, 8, 9, 10, 11, 12, 13, 14, 15, 16, 17, 18, 19, 6, 20, 191, 192, 193, 194, 195, 196, 197, 198, 199, 200, 201, 202, 203] (by decide +kernel) (by decide +kernel)) (goodIn_sub (fun _ h => List.mem_cons_of_mem _ (List.mem_append_left _ (List.mem_append_left _ (List.mem_append_left _ (List.mem_append_right _ h))))) (by decide +kernel))
set_option maxRecDepth 20000 in
theorem gX10_difference_X10_checkVariant : GoodIn wsX10_difference (wsV RX10 205 RX10 yX10_checkVariant wsX10_checkVariant) := goodIn_app (goodIn_of _ (by decide +kernel)) ggX10_difference_X10_checkVariant
set_option maxRecDepth 20000 in
theorem ggX10_difference_X10_checkFits : GoodIn wsX10_difference wsX10_checkFits := goodIn_ca (goodIn_ca (goodIn_r _ [24, 25, 26, 2, 27, 28, 29, 30, 31, 32, 33, 34, 35, 36, 37, 13, 14, 15, 16, 17, 38, 39, 40, 41, 42, 43, 44, 45, 46, 47, 48, 49, 50, 51, 52, 53, 54, 55, 56, 57, 58, 59, 60, 61, 62, 6, 63, 64, 65, 66, 67, 68, 69, 70, 71, 72, 73, 74, 75, 76, 77, 78, 79, 80, 81, 82, 83, 84, 85, 86, 87, 88, 89, 90, 191, 192, 193, 204, 205, 206, 207, 208, 209, 210, 211, 212, 194, 195, 196, 197, 198, 199, 200, 201, 202, 203, 213, 214, 215, 216, 217, 218, 219] (by decide +kernel) (by decide +kernel)) (goodIn_sub (fun _ h => List.mem_cons_of_mem _ (List.mem_append_left _ (List.mem_append_left _ (List.mem_append_right _ h)))) (by decide +kernel))) (goodIn_sub (fun _ h => List.mem_cons_of_mem _ (List.mem_append_left _ (List.mem_append_right _ h))) (by decide +kernel))
set_option maxRecDepth 20000 in
theorem gX10_difference_X10_checkFits : GoodIn wsX10_difference (wsV RX10 234 RX10 yX10_checkFits wsX10_checkFits) := goodIn_app (goodIn_of _ (by decide +kernel)) ggX10_difference_X10_checkFits
set_option maxRecDepth 20000 in
theorem ggX10_difference_X10_workOut : GoodIn wsX10_difference wsX10_workOut := goodIn_ca (goodIn_ca (goodIn_r _ [94, 2, 27, 28, 29, 30, 31, 32, 33, 34, 35, 36, 37, 13, 14, 15, 16, 17, 38, 39, 40, 41, 42, 43, 44, 45, 46, 47, 48, 49, 50, 51, 52, 53, 54, 55, 56, 57, 58, 59, 60, 61, 62, 6, 63, 64, 65, 66, 67, 68, 69, 70, 71, 72, 73, 74, 75, 76, 77, 78, 79, 80, 81, 82, 83, 84, 85, 86, 87, 88, 89, 90, 95, 96, 97, 98, 99, 100, 101, 102, 103, 104, 105, 106, 107, 108, 109, 110, 111, 112, 113, 114, 115, 116, 117, 118, 119, 120, 121, 122, 123, 124, 125, 126, 127, 128, 129, 130, 131, 132, 133, 134, 135, 136, 137, 138, 139, 140, 141, 142, 143, 144, 145, 146, 147, 148, 149, 150, 151, 152, 153, 154, 155, 156, 157, 158, 159, 160, 161, 162, 163, 164, 165, 166, 167, 168, 169, 170, 171, 172, 173, 174, 175, 176, 177, 178, 191, 192, 193, 204, 205, 206, 207, 208, 209, 210, 211, 212, 194, 195, 196, 197, 198, 199, 200, 201, 202, 203, 213, 214, 215, 216, 217, 218, 219, 220, 221, 222, 223, 224, 225, 226, 227, 228, 229, 230] (by decide +kernel) (by decide +kernel)) (goodIn_sub (fun _ h => List.mem_cons_of_mem _ (List.mem_append_left _ (List.mem_append_right _ h))) (by decide +kernel))) (goodIn_sub (fun _ h => List.mem_cons_of_mem _ (List.mem_append_right _ h)) (by decide +kernel))
set_option maxRecDepth 20000 in
theorem gX10_difference_X10_workOut : GoodIn wsX10_difference (wsV RX10 142 RX10 yX10_workOut wsX10_workOut) := goodIn_app (goodIn_of _ (by decide +kernel)) ggX10_difference_X10_workOut
set_option maxRecDepth 20000 in
theorem ggX10_difference_X2_totalCost : GoodIn wsX10_difference wsX2_totalCost := goodIn_ca (goodIn_ca (goodIn_r _ [182, 32, 151, 153, 183, 184, 185, 30, 186, 146, 187, 188, 189, 190, 35, 165, 167, 37, 13, 14, 15, 16, 17, 45, 46, 47, 48, 49, 50, 51, 52, 53, 54, 55, 56, 57, 58, 59, 60, 61, 168, 169, 170, 171, 172, 173, 174, 175, 176, 177, 178, 156, 204, 205, 206, 207, 208, 209, 210, 211, 212, 194, 195, 196, 197, 198, 199, 200, 227, 228, 229, 230, 201, 202, 203] (by decide +kernel) (by decide +kernel)) (goodIn_sub (fun _ h => List.mem_cons_of_mem _ (List.mem_append_left _ (List.mem_append_right _ h))) (by decide +kernel))) (goodIn_sub (fun _ h => List.mem_cons_of_mem _ (List.mem_append_right _ h)) (by decide +kernel))
set_option maxRecDepth 20000 in
theorem gX10_difference_X2_totalCost : GoodIn wsX10_difference (wsV RX10 237 RX2 yX2_totalCost wsX2_totalCost) := goodIn_app (goodIn_of _ (by decide +kernel)) ggX10_difference_X2_totalCost
theorem dX10_difference_0 : decode cX10_difference 0 = .ok (.aload_n 0, 1) := by decide +kernel
theorem dX10_difference_1 : decode cX10_difference 1 = .ok (.iload_n 1, 1) := by decide +kernel
theorem dX10_difference_2 : decode cX10_difference 2 = .ok (.invokevirtual 205, 3) := by decide +kernel
theorem dX10_difference_5 : decode cX10_difference 5 = .ok (.aload_n 0, 1) := by decide +kernel
theorem dX10_difference_6 : decode cX10_difference 6 = .ok (.getfield 25, 3) := by decide +kernel
theorem dX10_difference_9 : decode cX10_difference 9 = .ok (.iconst 1, 1) := by decide +kernel
theorem dX10_difference_10 : decode cX10_difference 10 = .ok (.iload_n 1, 1) := by decide +kernel
theorem dX10_difference_11 : decode cX10_difference 11 = .ok (.ishl, 1) := by decide +kernel
theorem dX10_difference_12 : decode cX10_difference 12 = .ok (.ixor, 1) := by decide +kernel
theorem dX10_difference_13 : decode cX10_difference 13 = .ok (.istore_n 2, 1) := by decide +kernel
theorem dX10_difference_14 : decode cX10_difference 14 = .ok (.aload_n 0, 1) := by decide +kernel
theorem dX10_difference_15 : decode cX10_difference 15 = .ok (.iload_n 2, 1) := by decide +kernel
theorem dX10_difference_16 : decode cX10_difference 16 = .ok (.invokevirtual 234, 3) := by decide +kernel
theorem dX10_difference_19 : decode cX10_difference 19 = .ok (.aload_n 0, 1) := by decide +kernel
theorem dX10_difference_20 : decode cX10_difference 20 = .ok (.iload_n 2, 1) := by decide +kernel
theorem dX10_difference_21 : decode cX10_difference 21 = .ok (.invokevirtual 142, 3) := by decide +kernel
theorem dX10_difference_24 : decode cX10_difference 24 = .ok (.aload_n 0, 1) := by decide +kernel
theorem dX10_difference_25 : decode cX10_difference 25 = .ok (.getfield 21, 3) := by decide +kernel
theorem dX10_difference_28 : decode cX10_difference 28 = .ok (.invokevirtual 237, 3) := by decide +kernel
theorem dX10_difference_31 : decode cX10_difference 31 = .ok (.lstore_n 3, 1) := by decide +kernel
theorem dX10_difference_32 : decode cX10_difference 32 = .ok (.aload_n 0, 1) := by decide +kernel
theorem dX10_difference_33 : decode cX10_difference 33 = .ok (.aload_n 0, 1) := by decide +kernel
theorem dX10_difference_34 : decode cX10_difference 34 = .ok (.getfield 25, 3) := by decide +kernel
theorem dX10_difference_37 : decode cX10_difference 37 = .ok (.invokevirtual 142, 3) := by decide +kernel
theorem dX10_difference_40 : decode cX10_difference 40 = .ok (.lload_n 3, 1) := by decide +kernel
theorem dX10_difference_41 : decode cX10_difference 41 = .ok (.aload_n 0, 1) := by decide +kernel
theorem dX10_difference_42 : decode cX10_difference 42 = .ok (.getfield 21, 3) := by decide +kernel
theorem dX10_difference_45 : decode cX10_difference 45 = .ok (.invokevirtual 237, 3) := by decide +kernel
theorem dX10_difference_48 : decode cX10_difference 48 = .ok (.lsub, 1) := by decide +kernel
theorem dX10_difference_49 : decode cX10_difference 49 = .ok (.lreturn, 1) := by decide +kernel
set_option maxRecDepth 20000 in
theorem ggX10_cheapestVariants_Jx4a65c_size_8abf5 : GoodIn wsX10_cheapestVariants wsJx4a65c_size_8abf5 := goodIn_r _ [8, 9, 181, 182, 183] (by decide +kernel) (by decide +kernel)
set_option maxRecDepth 20000 in
theorem gX10_cheapestVariants_Jx4a65c_size_8abf5 : GoodIn wsX10_cheapestVariants (wsV RX10 41 RJx4a65c yJx4a65c_size_8abf5 wsJx4a65c_size_8abf5) := goodIn_app (goodIn_of _ (by decide +kernel)) ggX10_cheapestVariants_Jx4a65c_size_8abf5
set_option maxRecDepth 20000 in
theorem ggX10_cheapestVariants_X2_choose : GoodIn wsX10_cheapestVariants wsX2_choose := goodIn_ca (goodIn_r _ [14, 15, 16, 17, 18, 19, 20, 5, 6, 7, 8, 9, 21, 22, 23, 13, 24, 25, 26, 27, 28, 29, 30, 31, 32, 33, 34, 35, 36, 37, 38, 39, 40, 41, 42, 43, 44, 45, 46, 47, 48, 49, 50, 51, 52, 53, 54, 55, 56, 57, 58, 59, 60, 61, 62, 63, 64, 65, 66, 67, 68, 69, 70, 71, 72, 73, 74, 184, 185, 186, 187, 188, 189, 190, 191, 192, 174, 175, 176, 177, 178, 179, 180, 181, 182, 183, 193, 194, 195, 196, 197, 198, 199] (by decide +kernel) (by decide +kernel)) (goodIn_sub (fun _ h => List.mem_cons_of_mem _ (List.mem_append_left _ (List.mem_append_right _ h))) (by decide +kernel))
set_option maxRecDepth 20000 in
theorem gX10_cheapestVariants_X2_choose : GoodIn wsX10_cheapestVariants (wsV RX10 121 RX2 yX2_choose wsX2_choose) := goodIn_app (goodIn_of _ (by decide +kernel)) ggX10_cheapestVariants_X2_choose
set_option maxRecDepth 20000 in
theorem ggX10_cheapestVariants_X2_workOutCosts : GoodIn wsX10_cheapestVariants wsX2_workOutCosts := goodIn_ca (goodIn_ca (goodIn_r _ [78, 79, 80, 81, 13, 82, 15, 16, 83, 66, 67, 68, 20, 5, 6, 7, 8, 9, 84, 85, 60, 86, 28, 29, 30, 31, 32, 33, 34, 35, 36, 37, 38, 39, 40, 41, 42, 43, 44, 87, 88, 89, 90, 69, 19, 70, 91, 92, 93, 94, 95, 96, 97, 98, 99, 100, 57, 101, 102, 103, 104, 105, 17, 106, 107, 108, 109, 110, 111, 112, 113, 114, 115, 116, 117, 118, 119, 120, 121, 122, 123, 124, 125, 126, 127, 128, 129, 130, 131, 132, 133, 134, 135, 136, 137, 138, 139, 140, 45, 46, 47, 141, 142, 143, 144, 18, 145, 146, 147, 148, 149, 150, 151, 152, 153, 154, 155, 156, 157, 158, 184, 185, 186, 187, 188, 189, 190, 191, 192, 174, 175, 176, 177, 178, 179, 180, 195, 196, 181, 182, 183, 197, 198, 199, 200, 201, 202, 203, 204, 205, 206, 207, 208, 209, 210] (by decide +kernel) (by decide +kernel)) (goodIn_sub (fun _ h => List.mem_cons_of_mem _ (List.mem_append_left _ (List.mem_append_right _ h))) (by decide +kernel))) (goodIn_sub (fun _ h => List.mem_cons_of_mem _ (List.mem_append_right _ h)) (by decide +kernel))
set_option maxRecDepth 20000 in
theorem gX10_cheapestVariants_X2_workOutCosts : GoodIn wsX10_cheapestVariants (wsV RX10 241 RX2 yX2_workOutCosts wsX2_workOutCosts) := goodIn_app (goodIn_of _ (by decide +kernel)) ggX10_cheapestVariants_X2_workOutCosts
set_option maxRecDepth 20000 in
theorem ggX10_cheapestVariants_X2_totalCost : GoodIn wsX10_cheapestVariants wsX2_totalCost := goodIn_ca (goodIn_ca (goodIn_r _ [162, 15, 131, 133, 163, 164, 165, 13, 166, 126, 167, 168, 169, 170, 18, 145, 147, 20, 5, 6, 7, 8, 9, 28, 29, 30, 31, 32, 33, 34, 35, 36, 37, 38, 39, 40, 41, 42, 43, 44, 148, 149, 150, 151, 152, 153, 154, 155, 156, 157, 158, 136, 184, 185, 186, 187, 188, 189, 190, 191, 192, 174, 175, 176, 177, 178, 179, 180, 207, 208, 209, 210, 181, 182, 183] (by decide +kernel) (by decide +kernel)) (goodIn_sub (fun _ h => List.mem_cons_of_mem _ (List.mem_append_left _ (List.mem_append_right _ h))) (by decide +kernel))) (goodIn_sub (fun _ h => List.mem_cons_of_mem _ (List.mem_append_right _ h)) (by decide +kernel))
set_option maxRecDepth 20000 in
theorem gX10_cheapestVariants_X2_totalCost : GoodIn wsX10_cheapestVariants (wsV RX10 237 RX2 yX2_totalCost wsX2_totalCost) := goodIn_app (goodIn_of _ (by decide +kernel)) ggX10_cheapestVariants_X2_totalCost
theorem dX10_cheapestVariants_0 : decode cX10_cheapestVariants 0 = .ok (.iconst (-1), 1) := by decide +kernel
theorem dX10_cheapestVariants_1 : decode cX10_cheapestVariants 1 = .ok (.istore_n 1, 1) := by decide +kernel
theorem dX10_cheapestVariants_2 : decode cX10_cheapestVariants 2 = .ok (.lconst 0, 1) := by decide +kernel
theorem dX10_cheapestVariants_3 : decode cX10_cheapestVariants 3 = .ok (.lstore_n 2, 1) := by decide +kernel
theorem dX10_cheapestVariants_4 : decode cX10_cheapestVariants 4 = .ok (.iconst 1, 1) := by decide +kernel
theorem dX10_cheapestVariants_5 : decode cX10_cheapestVariants 5 = .ok (.aload_n 0, 1) := by decide +kernel
theorem dX10_cheapestVariants_6 : decode cX10_cheapestVariants 6 = .ok (.getfield 10, 3) := by decide +kernel
theorem dX10_cheapestVariants_9 : decode cX10_cheapestVariants 9 = .ok (.getfield 199, 3) := by decide +kernel
theorem dX10_cheapestVariants_12 : decode cX10_cheapestVariants 12 = .ok (.invokevirtual 41, 3) := by decide +kernel
theorem dX10_cheapestVariants_15 : decode cX10_cheapestVariants 15 = .ok (.ishl, 1) := by decide +kernel
theorem dX10_cheapestVariants_16 : decode cX10_cheapestVariants 16 = .ok (.istore 4, 2) := by decide +kernel
theorem dX10_cheapestVariants_18 : decode cX10_cheapestVariants 18 = .ok (.iconst 0, 1) := by decide +kernel
theorem dX10_cheapestVariants_19 : decode cX10_cheapestVariants 19 = .ok (.istore 5, 2) := by decide +kernel
theorem dX10_cheapestVariants_21 : decode cX10_cheapestVariants 21 = .ok (.iload 5, 2) := by decide +kernel
theorem dX10_cheapestVariants_23 : decode cX10_cheapestVariants 23 = .ok (.iload 4, 2) := by decide +kernel
theorem dX10_cheapestVariants_25 : decode cX10_cheapestVariants 25 = .ok (.if_icmp .ge 55, 3) := by decide +kernel
theorem dX10_cheapestVariants_28 : decode cX10_cheapestVariants 28 = .ok (.aload_n 0, 1) := by decide +kernel
theorem dX10_cheapestVariants_29 : decode cX10_cheapestVariants 29 = .ok (.getfield 21, 3) := by decide +kernel
theorem dX10_cheapestVariants_32 : decode cX10_cheapestVariants 32 = .ok (.iload 5, 2) := by decide +kernel
theorem dX10_cheapestVariants_34 : decode cX10_cheapestVariants 34 = .ok (.invokevirtual 121, 3) := by decide +kernel
theorem dX10_cheapestVariants_37 : decode cX10_cheapestVariants 37 = .ok (.ifCond .eq 37, 3) := by decide +kernel
theorem dX10_cheapestVariants_40 : decode cX10_cheapestVariants 40 = .ok (.aload_n 0, 1) := by decide +kernel
theorem dX10_cheapestVariants_41 : decode cX10_cheapestVariants 41 = .ok (.getfield 21, 3) := by decide +kernel
theorem dX10_cheapestVariants_44 : decode cX10_cheapestVariants 44 = .ok (.invokevirtual 241, 3) := by decide +kernel
theorem dX10_cheapestVariants_47 : decode cX10_cheapestVariants 47 = .ok (.aload_n 0, 1) := by decide +kernel
theorem dX10_cheapestVariants_48 : decode cX10_cheapestVariants 48 = .ok (.getfield 21, 3) := by decide +kernel
theorem dX10_cheapestVariants_51 : decode cX10_cheapestVariants 51 = .ok (.invokevirtual 237, 3) := by decide +kernel
theorem dX10_cheapestVariants_54 : decode cX10_cheapestVariants 54 = .ok (.lstore 6, 2) := by decide +kernel
theorem dX10_cheapestVariants_56 : decode cX10_cheapestVariants 56 = .ok (.iload_n 1, 1) := by decide +kernel
theorem dX10_cheapestVariants_57 : decode cX10_cheapestVariants 57 = .ok (.iconst (-1), 1) := by decide +kernel
theorem dX10_cheapestVariants_58 : decode cX10_cheapestVariants 58 = .ok (.if_icmp .eq 10, 3) := by decide +kernel
theorem dX10_cheapestVariants_61 : decode cX10_cheapestVariants 61 = .ok (.lload 6, 2) := by decide +kernel
theorem dX10_cheapestVariants_63 : decode cX10_cheapestVariants 63 = .ok (.lload_n 2, 1) := by decide +kernel
theorem dX10_cheapestVariants_64 : decode cX10_cheapestVariants 64 = .ok (.lcmp, 1) := by decide +kernel
theorem dX10_cheapestVariants_65 : decode cX10_cheapestVariants 65 = .ok (.ifCond .ge 9, 3) := by decide +kernel
theorem dX10_cheapestVariants_68 : decode cX10_cheapestVariants 68 = .ok (.iload 5, 2) := by decide +kernel
theorem dX10_cheapestVariants_70 : decode cX10_cheapestVariants 70 = .ok (.istore_n 1, 1) := by decide +kernel
theorem dX10_cheapestVariants_71 : decode cX10_cheapestVariants 71 = .ok (.lload 6, 2) := by decide +kernel
theorem dX10_cheapestVariants_73 : decode cX10_cheapestVariants 73 = .ok (.lstore_n 2, 1) := by decide +kernel
theorem dX10_cheapestVariants_74 : decode cX10_cheapestVariants 74 = .ok (.iinc 5 1, 3) := by decide +kernel
theorem dX10_cheapestVariants_77 : decode cX10_cheapestVariants 77 = .ok (.goto (-56), 3) := by decide +kernel
theorem dX10_cheapestVariants_80 : decode cX10_cheapestVariants 80 = .ok (.iload_n 1, 1) := by decide +kernel
theorem dX10_cheapestVariants_81 : decode cX10_cheapestVariants 81 = .ok (.ireturn, 1) := by decide +kernel
set_option maxRecDepth 20000 in
theorem ggX10_addMarkup_Jx4a65c_size_8abf5 : GoodIn wsX10_addMarkup wsJx4a65c_size_8abf5 := goodIn_r _ [12, 13, 97, 98, 99] (by decide +kernel) (by decide +kernel)
set_option maxRecDepth 20000 in
theorem gX10_addMarkup_Jx4a65c_size_8abf5 : GoodIn wsX10_addMarkup (wsV RX10 41 RJx4a65c yJx4a65c_size_8abf5 wsJx4a65c_size_8abf5) := goodIn_app (goodIn_of _ (by decide +kernel)) ggX10_addMarkup_Jx4a65c_size_8abf5
set_option maxRecDepth 20000 in
theorem ggX10_addMarkup_X10_checkRoom : GoodIn wsX10_addMarkup wsX10_checkRoom := goodIn_ca (goodIn_r _ [17, 18, 19] (by decide +kernel) (by decide +kernel)) (goodIn_sub (fun _ h => List.mem_cons_of_mem _ (List.mem_append_right _ h)) (by decide +kernel))
set_option maxRecDepth 20000 in
theorem gX10_addMarkup_X10_checkRoom : GoodIn wsX10_addMarkup (va_wsS RX10 47 yX10_checkRoom wsX10_checkRoom) := goodIn_app (goodIn_of _ (by decide +kernel)) ggX10_addMarkup_X10_checkRoom
set_option maxRecDepth 20000 in
theorem ggX10_addMarkup_X10_checkRange : GoodIn wsX10_addMarkup wsX10_checkRange := goodIn_ca (goodIn_r _ [22, 1, 2] (by decide +kernel) (by decide +kernel)) (goodIn_sub (fun _ h => List.mem_cons_of_mem _ (List.mem_append_left _ (List.mem_append_right _ h))) (by decide +kernel))
set_option maxRecDepth 20000 in
theorem gX10_addMarkup_X10_checkRange : GoodIn wsX10_addMarkup (va_wsS RX10 33 yX10_checkRange wsX10_checkRange) := goodIn_app (goodIn_of _ (by decide +kernel)) ggX10_addMarkup_X10_checkRange
set_option maxRecDepth 20000 in
theorem ggX10_addMarkup_X5_init : GoodIn wsX10_addMarkup wsX5_init := goodIn_r _ [25, 26, 27, 28, 29, 30, 95, 96] (by decide +kernel) (by decide +kernel)
set_option maxRecDepth 20000 in
theorem gX10_addMarkup_X5_init : GoodIn wsX10_addMarkup (wsX5_init) := ggX10_addMarkup_X5_init
set_option maxRecDepth 20000 in
theorem ggX10_addMarkup_Jx4a65c_add_9ea2d : GoodIn wsX10_addMarkup wsJx4a65c_add_9ea2d := goodIn_r _ [34, 35, 36, 37, 13, 38, 39, 40, 11, 41, 42, 43, 44, 45, 46, 47, 48, 49, 50, 51, 52, 53, 54, 55, 56, 57, 58, 59, 60, 61, 62, 63, 64, 65, 66, 67, 68, 69, 70, 71, 72, 73, 74, 75, 76, 77, 78, 79, 80, 81, 82, 83, 84, 97, 98, 99] (by decide +kernel) (by decide +kernel)
set_option maxRecDepth 20000 in
theorem gX10_addMarkup_Jx4a65c_add_9ea2d : GoodIn wsX10_addMarkup (wsV RX10 56 RJx4a65c yJx4a65c_add_9ea2d wsJx4a65c_add_9ea2d) := goodIn_app (goodIn_of _ (by decide +kernel)) ggX10_addMarkup_Jx4a65c_add_9ea2d
theorem dX10_addMarkup_0 : decode cX10_addMarkup 0 = .ok (.aload_n 0, 1) := by decide +kernel
theorem dX10_addMarkup_1 : decode cX10_addMarkup 1 = .ok (.getfield 10, 3) := by decide +kernel
theorem dX10_addMarkup_4 : decode cX10_addMarkup 4 = .ok (.getfield 244, 3) := by decide +kernel
theorem dX10_addMarkup_7 : decode cX10_addMarkup 7 = .ok (.invokevirtual 41, 3) := by decide +kernel
theorem dX10_addMarkup_10 : decode cX10_addMarkup 10 = .ok (.istore_n 3, 1) := by decide +kernel
theorem dX10_addMarkup_11 : decode cX10_addMarkup 11 = .ok (.iload_n 3, 1) := by decide +kernel
theorem dX10_addMarkup_12 : decode cX10_addMarkup 12 = .ok (.iconst 4, 1) := by decide +kernel
theorem dX10_addMarkup_13 : decode cX10_addMarkup 13 = .ok (.invokestatic 47, 3) := by decide +kernel
theorem dX10_addMarkup_16 : decode cX10_addMarkup 16 = .ok (.iload_n 1, 1) := by decide +kernel
theorem dX10_addMarkup_17 : decode cX10_addMarkup 17 = .ok (.iconst 0, 1) := by decide +kernel
theorem dX10_addMarkup_18 : decode cX10_addMarkup 18 = .ok (.bipush 50, 2) := by decide +kernel
theorem dX10_addMarkup_20 : decode cX10_addMarkup 20 = .ok (.invokestatic 33, 3) := by decide +kernel
theorem dX10_addMarkup_23 : decode cX10_addMarkup 23 = .ok (.iconst 1, 1) := by decide +kernel
theorem dX10_addMarkup_24 : decode cX10_addMarkup 24 = .ok (.iconst 4, 1) := by decide +kernel
theorem dX10_addMarkup_25 : decode cX10_addMarkup 25 = .ok (.iload_n 3, 1) := by decide +kernel
theorem dX10_addMarkup_26 : decode cX10_addMarkup 26 = .ok (.iadd, 1) := by decide +kernel
theorem dX10_addMarkup_27 : decode cX10_addMarkup 27 = .ok (.ishl, 1) := by decide +kernel
theorem dX10_addMarkup_28 : decode cX10_addMarkup 28 = .ok (.iconst 1, 1) := by decide +kernel
theorem dX10_addMarkup_29 : decode cX10_addMarkup 29 = .ok (.isub, 1) := by decide +kernel
theorem dX10_addMarkup_30 : decode cX10_addMarkup 30 = .ok (.istore 4, 2) := by decide +kernel
theorem dX10_addMarkup_32 : decode cX10_addMarkup 32 = .ok (.iload_n 2, 1) := by decide +kernel
theorem dX10_addMarkup_33 : decode cX10_addMarkup 33 = .ok (.iload 4, 2) := by decide +kernel
theorem dX10_addMarkup_35 : decode cX10_addMarkup 35 = .ok (.iconst (-1), 1) := by decide +kernel
theorem dX10_addMarkup_36 : decode cX10_addMarkup 36 = .ok (.ixor, 1) := by decide +kernel
theorem dX10_addMarkup_37 : decode cX10_addMarkup 37 = .ok (.iand, 1) := by decide +kernel
theorem dX10_addMarkup_38 : decode cX10_addMarkup 38 = .ok (.ifCond .eq 13, 3) := by decide +kernel
theorem dX10_addMarkup_41 : decode cX10_addMarkup 41 = .ok (.new 208, 3) := by decide +kernel
theorem dX10_addMarkup_44 : decode cX10_addMarkup 44 = .ok (.dup, 1) := by decide +kernel
theorem dX10_addMarkup_45 : decode cX10_addMarkup 45 = .ok (.ldc 247, 2) := by decide +kernel
theorem dX10_addMarkup_47 : decode cX10_addMarkup 47 = .ok (.invokespecial 212, 3) := by decide +kernel
theorem dX10_addMarkup_50 : decode cX10_addMarkup 50 = .ok (.athrow, 1) := by decide +kernel
theorem dX10_addMarkup_51 : decode cX10_addMarkup 51 = .ok (.aload_n 0, 1) := by decide +kernel
theorem dX10_addMarkup_52 : decode cX10_addMarkup 52 = .ok (.getfield 10, 3) := by decide +kernel
theorem dX10_addMarkup_55 : decode cX10_addMarkup 55 = .ok (.getfield 244, 3) := by decide +kernel
theorem dX10_addMarkup_58 : decode cX10_addMarkup 58 = .ok (.new 249, 3) := by decide +kernel
theorem dX10_addMarkup_61 : decode cX10_addMarkup 61 = .ok (.dup, 1) := by decide +kernel
theorem dX10_addMarkup_62 : decode cX10_addMarkup 62 = .ok (.iload_n 1, 1) := by decide +kernel
theorem dX10_addMarkup_63 : decode cX10_addMarkup 63 = .ok (.iload_n 2, 1) := by decide +kernel
theorem dX10_addMarkup_64 : decode cX10_addMarkup 64 = .ok (.invokespecial 251, 3) := by decide +kernel
theorem dX10_addMarkup_67 : decode cX10_addMarkup 67 = .ok (.invokevirtual 56, 3) := by decide +kernel
theorem dX10_addMarkup_70 : decode cX10_addMarkup 70 = .ok (.pop, 1) := by decide +kernel
theorem dX10_addMarkup_71 : decode cX10_addMarkup 71 = .ok (.iload_n 3, 1) := by decide +kernel
theorem dX10_addMarkup_72 : decode cX10_addMarkup 72 = .ok (.ireturn, 1) := by decide +kernel
set_option maxRecDepth 20000 in
theorem ggX10_setPercent_X10_checkMarkup : GoodIn wsX10_setPercent wsX10_checkMarkup := goodIn_ca (goodIn_r _ [9, 10, 11, 1, 2, 12, 13, 14, 15, 16, 17, 18, 19, 8, 20, 43, 44, 45, 46, 47, 48, 49, 50, 51, 52, 55, 56, 57] (by decide +kernel) (by decide +kernel)) (goodIn_sub (fun _ h => List.mem_cons_of_mem _ (List.mem_append_left _ (List.mem_append_right _ h))) (by decide +kernel))
set_option maxRecDepth 20000 in
theorem gX10_setPercent_X10_checkMarkup : GoodIn wsX10_setPercent (wsV RX10 252 RX10 yX10_checkMarkup wsX10_checkMarkup) := goodIn_app (goodIn_of _ (by decide +kernel)) ggX10_setPercent_X10_checkMarkup
set_option maxRecDepth 20000 in
theorem ggX10_setPercent_X10_checkRange : GoodIn wsX10_setPercent wsX10_checkRange := goodIn_ca (goodIn_r _ [23, 24, 25] (by decide +kernel) (by decide +kernel)) (goodIn_sub (fun _ h => List.mem_cons_of_mem _ (List.mem_append_right _ h)) (by decide +kernel))
set_option maxRecDepth 20000 in
theorem gX10_setPercent_X10_checkRange : GoodIn wsX10_setPercent (va_wsS RX10 33 yX10_checkRange wsX10_checkRange) := goodIn_app (goodIn_of _ (by decide +kernel)) ggX10_setPercent_X10_checkRange
set_option maxRecDepth 20000 in
theorem ggX10_setPercent_Jx4a65c_get_915e3 : GoodIn wsX10_setPercent wsJx4a65c_get_915e3 := goodIn_r _ [29, 17, 30, 31, 32, 33, 34, 35, 36, 37, 38, 39, 40, 15, 41, 42, 55, 56, 57] (by decide +kernel) (by decide +kernel)
set_option maxRecDepth 20000 in
theorem gX10_setPercent_Jx4a65c_get_915e3 : GoodIn wsX10_setPercent (wsV RX10 63 RJx4a65c yJx4a65c_get_915e3 wsJx4a65c_get_915e3) := goodIn_app (goodIn_of _ (by decide +kernel)) ggX10_setPercent_Jx4a65c_get_915e3
theorem dX10_setPercent_0 : decode cX10_setPercent 0 = .ok (.aload_n 0, 1) := by decide +kernel
theorem dX10_setPercent_1 : decode cX10_setPercent 1 = .ok (.iload_n 1, 1) := by decide +kernel
theorem dX10_setPercent_2 : decode cX10_setPercent 2 = .ok (.invokevirtual 252, 3) := by decide +kernel
theorem dX10_setPercent_5 : decode cX10_setPercent 5 = .ok (.iload_n 2, 1) := by decide +kernel
theorem dX10_setPercent_6 : decode cX10_setPercent 6 = .ok (.iconst 0, 1) := by decide +kernel
theorem dX10_setPercent_7 : decode cX10_setPercent 7 = .ok (.bipush 50, 2) := by decide +kernel
theorem dX10_setPercent_9 : decode cX10_setPercent 9 = .ok (.invokestatic 33, 3) := by decide +kernel
theorem dX10_setPercent_12 : decode cX10_setPercent 12 = .ok (.aload_n 0, 1) := by decide +kernel
theorem dX10_setPercent_13 : decode cX10_setPercent 13 = .ok (.getfield 10, 3) := by decide +kernel
theorem dX10_setPercent_16 : decode cX10_setPercent 16 = .ok (.getfield 244, 3) := by decide +kernel
theorem dX10_setPercent_19 : decode cX10_setPercent 19 = .ok (.iload_n 1, 1) := by decide +kernel
theorem dX10_setPercent_20 : decode cX10_setPercent 20 = .ok (.invokevirtual 63, 3) := by decide +kernel
theorem dX10_setPercent_23 : decode cX10_setPercent 23 = .ok (.checkcast 249, 3) := by decide +kernel
theorem dX10_setPercent_26 : decode cX10_setPercent 26 = .ok (.astore_n 3, 1) := by decide +kernel
theorem dX10_setPercent_27 : decode cX10_setPercent 27 = .ok (.aload_n 3, 1) := by decide +kernel
theorem dX10_setPercent_28 : decode cX10_setPercent 28 = .ok (.getfield 255, 3) := by decide +kernel
theorem dX10_setPercent_31 : decode cX10_setPercent 31 = .ok (.istore 4, 2) := by decide +kernel
theorem dX10_setPercent_33 : decode cX10_setPercent 33 = .ok (.aload_n 3, 1) := by decide +kernel
theorem dX10_setPercent_34 : decode cX10_setPercent 34 = .ok (.iload_n 2, 1) := by decide +kernel
theorem dX10_setPercent_35 : decode cX10_setPercent 35 = .ok (.putfield 255, 3) := by decide +kernel
theorem dX10_setPercent_38 : decode cX10_setPercent 38 = .ok (.iload 4, 2) := by decide +kernel
theorem dX10_setPercent_40 : decode cX10_setPercent 40 = .ok (.ireturn, 1) := by decide +kernel
set_option maxRecDepth 20000 in
theorem ggX10_markup_X10_checkMarkup : GoodIn wsX10_markup wsX10_checkMarkup := goodIn_ca (goodIn_r _ [7, 8, 9, 10, 11, 12, 13, 14, 15, 16, 17, 18, 19, 6, 20, 173, 174, 175, 185, 186, 187, 188, 189, 190, 191, 192, 193, 194] (by decide +kernel) (by decide +kernel)) (goodIn_sub (fun _ h => List.mem_cons_of_mem _ (List.mem_append_left _ (List.mem_append_right _ h))) (by decide +kernel))
set_option maxRecDepth 20000 in
theorem gX10_markup_X10_checkMarkup : GoodIn wsX10_markup (wsV RX10 252 RX10 yX10_checkMarkup wsX10_checkMarkup) := goodIn_app (goodIn_of _ (by decide +kernel)) ggX10_markup_X10_checkMarkup
set_option maxRecDepth 20000 in
theorem ggX10_markup_X10_workOut : GoodIn wsX10_markup wsX10_workOut := goodIn_ca (goodIn_ca (goodIn_r _ [24, 2, 25, 26, 27, 28, 29, 30, 31, 32, 33, 34, 35, 13, 14, 15, 16, 17, 36, 37, 38, 39, 40, 41, 42, 43, 44, 45, 46, 47, 48, 49, 50, 51, 52, 53, 54, 55, 56, 57, 58, 59, 60, 6, 61, 62, 63, 64, 65, 66, 67, 68, 69, 70, 71, 72, 73, 74, 75, 76, 77, 78, 79, 80, 81, 82, 83, 84, 85, 86, 87, 88, 89, 90, 91, 92, 93, 94, 95, 96, 97, 98, 99, 100, 101, 102, 103, 104, 105, 106, 107, 108, 109, 110, 111, 112, 113, 114, 115, 116, 117, 118, 119, 120, 121, 122, 123, 124, 125, 126, 127, 128, 129, 130, 131, 132, 133, 134, 135, 136, 137, 138, 139, 140, 141, 142, 143, 144, 145, 146, 147, 148, 149, 150, 151, 152, 153, 154, 155, 156, 157, 158, 159, 160, 161, 162, 163, 164, 165, 166, 167, 168, 169, 170, 171, 172, 173, 174, 175, 176, 177, 178, 179, 180, 181, 182, 183, 184, 185, 186, 187, 188, 189, 190, 191, 192, 193, 194, 195, 196, 197, 198, 199, 200, 201, 202, 203, 204, 205, 206, 207, 208, 209, 210, 211, 212] (by decide +kernel) (by decide +kernel)) (goodIn_sub (fun _ h => List.mem_cons_of_mem _ (List.mem_append_left _ (List.mem_append_left _ (List.mem_append_right _ h)))) (by decide +kernel))) (goodIn_sub (fun _ h => List.mem_cons_of_mem _ (List.mem_append_right _ h)) (by decide +kernel))
set_option maxRecDepth 20000 in
theorem gX10_markup_X10_workOut : GoodIn wsX10_markup (wsV RX10 142 RX10 yX10_workOut wsX10_workOut) := goodIn_app (goodIn_of _ (by decide +kernel)) ggX10_markup_X10_workOut
theorem dX10_markup_0 : decode cX10_markup 0 = .ok (.aload_n 0, 1) := by decide +kernel
theorem dX10_markup_1 : decode cX10_markup 1 = .ok (.iload_n 1, 1) := by decide +kernel
theorem dX10_markup_2 : decode cX10_markup 2 = .ok (.invokevirtual 252, 3) := by decide +kernel
theorem dX10_markup_5 : decode cX10_markup 5 = .ok (.aload_n 0, 1) := by decide +kernel
theorem dX10_markup_6 : decode cX10_markup 6 = .ok (.aload_n 0, 1) := by decide +kernel
theorem dX10_markup_7 : decode cX10_markup 7 = .ok (.getfield 25, 3) := by decide +kernel
theorem dX10_markup_10 : decode cX10_markup 10 = .ok (.invokevirtual 142, 3) := by decide +kernel
theorem dX10_markup_13 : decode cX10_markup 13 = .ok (.aload_n 0, 1) := by decide +kernel
theorem dX10_markup_14 : decode cX10_markup 14 = .ok (.getfield 21, 3) := by decide +kernel
theorem dX10_markup_17 : decode cX10_markup 17 = .ok (.getfield 258, 3) := by decide +kernel
theorem dX10_markup_20 : decode cX10_markup 20 = .ok (.iload_n 1, 1) := by decide +kernel
theorem dX10_markup_21 : decode cX10_markup 21 = .ok (.laload, 1) := by decide +kernel
theorem dX10_markup_22 : decode cX10_markup 22 = .ok (.lreturn, 1) := by decide +kernel
set_option maxRecDepth 20000 in
theorem ggX10_amount_X10_checkResource : GoodIn wsX10_amount wsX10_checkResource := goodIn_ca (goodIn_r _ [7, 8, 9, 10, 11, 12, 13, 14, 15, 16, 17, 18, 19, 6, 20, 173, 174, 175, 185, 186, 187, 188, 189, 190, 191, 192, 193, 194] (by decide +kernel) (by decide +kernel)) (goodIn_sub (fun _ h => List.mem_cons_of_mem _ (List.mem_append_left _ (List.mem_append_right _ h))) (by decide +kernel))
set_option maxRecDepth 20000 in
theorem gX10_amount_X10_checkResource : GoodIn wsX10_amount (wsV RX10 60 RX10 yX10_checkResource wsX10_checkResource) := goodIn_app (goodIn_of _ (by decide +kernel)) ggX10_amount_X10_checkResource
set_option maxRecDepth 20000 in
theorem ggX10_amount_X10_workOut : GoodIn wsX10_amount wsX10_workOut := goodIn_ca (goodIn_ca (goodIn_r _ [24, 2, 25, 26, 27, 28, 29, 30, 31, 32, 33, 34, 35, 13, 14, 15, 16, 17, 36, 37, 38, 39, 40, 41, 42, 43, 44, 45, 46, 47, 48, 49, 50, 51, 52, 53, 54, 55, 56, 57, 58, 59, 60, 6, 61, 62, 63, 64, 65, 66, 67, 68, 69, 70, 71, 72, 73, 74, 75, 76, 77, 78, 79, 80, 81, 82, 83, 84, 85, 86, 87, 88, 89, 90, 91, 92, 93, 94, 95, 96, 97, 98, 99, 100, 101, 102, 103, 104, 105, 106, 107, 108, 109, 110, 111, 112, 113, 114, 115, 116, 117, 118, 119, 120, 121, 122, 123, 124, 125, 126, 127, 128, 129, 130, 131, 132, 133, 134, 135, 136, 137, 138, 139, 140, 141, 142, 143, 144, 145, 146, 147, 148, 149, 150, 151, 152, 153, 154, 155, 156, 157, 158, 159, 160, 161, 162, 163, 164, 165, 166, 167, 168, 169, 170, 171, 172, 173, 174, 175, 176, 177, 178, 179, 180, 181, 182, 183, 184, 185, 186, 187, 188, 189, 190, 191, 192, 193, 194, 195, 196, 197, 198, 199, 200, 201, 202, 203, 204, 205, 206, 207, 208, 209, 210, 211, 212] (by decide +kernel) (by decide +kernel)) (goodIn_sub (fun _ h => List.mem_cons_of_mem _ (List.mem_append_left _ (List.mem_append_left _ (List.mem_append_right _ h)))) (by decide +kernel))) (goodIn_sub (fun _ h => List.mem_cons_of_mem _ (List.mem_append_right _ h)) (by decide +kernel))
set_option maxRecDepth 20000 in
theorem gX10_amount_X10_workOut : GoodIn wsX10_amount (wsV RX10 142 RX10 yX10_workOut wsX10_workOut) := goodIn_app (goodIn_of _ (by decide +kernel)) ggX10_amount_X10_workOut
theorem dX10_amount_0 : decode cX10_amount 0 = .ok (.aload_n 0, 1) := by decide +kernel
theorem dX10_amount_1 : decode cX10_amount 1 = .ok (.iload_n 1, 1) := by decide +kernel
theorem dX10_amount_2 : decode cX10_amount 2 = .ok (.invokevirtual 60, 3) := by decide +kernel
theorem dX10_amount_5 : decode cX10_amount 5 = .ok (.aload_n 0, 1) := by decide +kernel
theorem dX10_amount_6 : decode cX10_amount 6 = .ok (.aload_n 0, 1) := by decide +kernel
theorem dX10_amount_7 : decode cX10_amount 7 = .ok (.getfield 25, 3) := by decide +kernel
theorem dX10_amount_10 : decode cX10_amount 10 = .ok (.invokevirtual 142, 3) := by decide +kernel
theorem dX10_amount_13 : decode cX10_amount 13 = .ok (.aload_n 0, 1) := by decide +kernel
theorem dX10_amount_14 : decode cX10_amount 14 = .ok (.getfield 21, 3) := by decide +kernel
theorem dX10_amount_17 : decode cX10_amount 17 = .ok (.getfield 262, 3) := by decide +kernel
theorem dX10_amount_20 : decode cX10_amount 20 = .ok (.iload_n 1, 1) := by decide +kernel
theorem dX10_amount_21 : decode cX10_amount 21 = .ok (.laload, 1) := by decide +kernel
theorem dX10_amount_22 : decode cX10_amount 22 = .ok (.lreturn, 1) := by decide +kernel
set_option maxRecDepth 20000 in
theorem ggX10_amountByTree_X10_checkResource : GoodIn wsX10_amountByTree wsX10_checkResource := goodIn_ca (goodIn_r _ [7, 8, 9, 10, 11, 12, 13, 14, 15, 16, 17, 18, 19, 6, 20, 111, 112, 113, 114, 115, 116, 117, 118, 119, 120, 121, 122, 123] (by decide +kernel) (by decide +kernel)) (goodIn_sub (fun _ h => List.mem_cons_of_mem _ (List.mem_append_left _ (List.mem_append_right _ h))) (by decide +kernel))
set_option maxRecDepth 20000 in
theorem gX10_amountByTree_X10_checkResource : GoodIn wsX10_amountByTree (wsV RX10 60 RX10 yX10_checkResource wsX10_checkResource) := goodIn_app (goodIn_of _ (by decide +kernel)) ggX10_amountByTree_X10_checkResource
set_option maxRecDepth 20000 in
theorem ggX10_amountByTree_X2_choose : GoodIn wsX10_amountByTree wsX2_choose := goodIn_ca (goodIn_r _ [25, 26, 27, 28, 29, 30, 31, 13, 14, 15, 16, 17, 32, 33, 34, 24, 35, 36, 37, 38, 39, 40, 41, 42, 43, 44, 45, 46, 47, 48, 49, 50, 51, 52, 53, 54, 55, 56, 6, 57, 58, 59, 60, 61, 62, 63, 64, 65, 66, 67, 68, 69, 70, 71, 72, 73, 74, 75, 76, 77, 78, 79, 80, 81, 82, 83, 84, 124, 125, 126, 127, 128, 129, 130, 131, 132, 114, 115, 116, 117, 118, 119, 120, 121, 122, 123, 133, 134, 135, 136, 137, 138, 139] (by decide +kernel) (by decide +kernel)) (goodIn_sub (fun _ h => List.mem_cons_of_mem _ (List.mem_append_right _ h)) (by decide +kernel))
set_option maxRecDepth 20000 in
theorem gX10_amountByTree_X2_choose : GoodIn wsX10_amountByTree (wsV RX10 121 RX2 yX2_choose wsX2_choose) := goodIn_app (goodIn_of _ (by decide +kernel)) ggX10_amountByTree_X2_choose
set_option maxRecDepth 20000 in
theorem ggX10_amountByTree_X2_amountInTrees : GoodIn wsX10_amountByTree wsX2_amountInTrees := goodIn_ca (goodIn_r _ [88, 26, 89, 90, 91, 28, 92, 31, 13, 14, 15, 16, 17, 39, 40, 41, 42, 43, 44, 45, 46, 47, 48, 49, 50, 51, 52, 53, 54, 55, 93, 94, 95, 24, 96, 27, 76, 77, 78, 97, 98, 99, 100, 79, 80, 101, 30, 102, 103, 104, 105, 106, 107, 108, 109, 110, 124, 125, 126, 127, 128, 129, 130, 131, 132, 114, 115, 116, 117, 118, 119, 120, 140, 141, 121, 122, 123, 137, 138, 139, 142, 143, 144, 135, 136] (by decide +kernel) (by decide +kernel)) (goodIn_sub (fun _ h => List.mem_cons_of_mem _ (List.mem_append_right _ h)) (by decide +kernel))
set_option maxRecDepth 20000 in
theorem gX10_amountByTree_X2_amountInTrees : GoodIn wsX10_amountByTree (wsV RX10 265 RX2 yX2_amountInTrees wsX2_amountInTrees) := goodIn_app (goodIn_of _ (by decide +kernel)) ggX10_amountByTree_X2_amountInTrees
theorem dX10_amountByTree_0 : decode cX10_amountByTree 0 = .ok (.aload_n 0, 1) := by decide +kernel
theorem dX10_amountByTree_1 : decode cX10_amountByTree 1 = .ok (.iload_n 1, 1) := by decide +kernel
theorem dX10_amountByTree_2 : decode cX10_amountByTree 2 = .ok (.invokevirtual 60, 3) := by decide +kernel
theorem dX10_amountByTree_5 : decode cX10_amountByTree 5 = .ok (.aload_n 0, 1) := by decide +kernel
theorem dX10_amountByTree_6 : decode cX10_amountByTree 6 = .ok (.getfield 21, 3) := by decide +kernel
theorem dX10_amountByTree_9 : decode cX10_amountByTree 9 = .ok (.aload_n 0, 1) := by decide +kernel
theorem dX10_amountByTree_10 : decode cX10_amountByTree 10 = .ok (.getfield 25, 3) := by decide +kernel
theorem dX10_amountByTree_13 : decode cX10_amountByTree 13 = .ok (.invokevirtual 121, 3) := by decide +kernel
theorem dX10_amountByTree_16 : decode cX10_amountByTree 16 = .ok (.pop, 1) := by decide +kernel
theorem dX10_amountByTree_17 : decode cX10_amountByTree 17 = .ok (.aload_n 0, 1) := by decide +kernel
theorem dX10_amountByTree_18 : decode cX10_amountByTree 18 = .ok (.getfield 21, 3) := by decide +kernel
theorem dX10_amountByTree_21 : decode cX10_amountByTree 21 = .ok (.iload_n 1, 1) := by decide +kernel
theorem dX10_amountByTree_22 : decode cX10_amountByTree 22 = .ok (.invokevirtual 265, 3) := by decide +kernel
theorem dX10_amountByTree_25 : decode cX10_amountByTree 25 = .ok (.lreturn, 1) := by decide +kernel
set_option maxRecDepth 20000 in
theorem ggX10_packs_X10_checkResource : GoodIn wsX10_packs wsX10_checkResource := goodIn_ca (goodIn_r _ [7, 8, 9, 10, 11, 12, 13, 14, 15, 16, 17, 18, 19, 6, 20, 174, 175, 176, 177, 178, 179, 180, 181, 182, 183, 184, 185, 186] (by decide +kernel) (by decide +kernel)) (goodIn_sub (fun _ h => List.mem_cons_of_mem _ (List.mem_append_left _ (List.mem_append_left _ (List.mem_append_right _ h)))) (by decide +kernel))
set_option maxRecDepth 20000 in
theorem gX10_packs_X10_checkResource : GoodIn wsX10_packs (wsV RX10 60 RX10 yX10_checkResource wsX10_checkResource) := goodIn_app (goodIn_of _ (by decide +kernel)) ggX10_packs_X10_checkResource
set_option maxRecDepth 20000 in
theorem ggX10_packs_X10_workOut : GoodIn wsX10_packs wsX10_workOut := goodIn_ca (goodIn_ca (goodIn_r _ [24, 2, 25, 26, 27, 28, 29, 30, 31, 32, 33, 34, 35, 13, 14, 15, 16, 17, 36, 37, 38, 39, 40, 41, 42, 43, 44, 45, 46, 47, 48, 49, 50, 51, 52, 53, 54, 55, 56, 57, 58, 59, 60, 6, 61, 62, 63, 64, 65, 66, 67, 68, 69, 70, 71, 72, 73, 74, 75, 76, 77, 78, 79, 80, 81, 82, 83, 84, 85, 86, 87, 88, 89, 90, 91, 92, 93, 94, 95, 96, 97, 98, 99, 100, 101, 102, 103, 104, 105, 106, 107, 108, 109, 110, 111, 112, 113, 114, 115, 116, 117, 118, 119, 120, 121, 122, 123, 124, 125, 126, 127, 128, 129, 130, 131, 132, 133, 134, 135, 136, 137, 138, 139, 140, 141, 142, 143, 144, 145, 146, 147, 148, 149, 150, 151, 152, 153, 154, 155, 156, 157, 158, 159, 160, 161, 162, 163, 164, 165, 166, 167, 168, 169, 170, 171, 172, 174, 175, 176, 187, 188, 189, 190, 191, 192, 193, 194, 195, 177, 178, 179, 180, 181, 182, 183, 184, 185, 186, 196, 197, 198, 199, 200, 201, 202, 203, 204, 205, 206, 207, 208, 209, 210, 211, 212, 213] (by decide +kernel) (by decide +kernel)) (goodIn_sub (fun _ h => List.mem_cons_of_mem _ (List.mem_append_left _ (List.mem_append_right _ h))) (by decide +kernel))) (goodIn_sub (fun _ h => List.mem_cons_of_mem _ (List.mem_append_right _ h)) (by decide +kernel))
set_option maxRecDepth 20000 in
theorem gX10_packs_X10_workOut : GoodIn wsX10_packs (wsV RX10 142 RX10 yX10_workOut wsX10_workOut) := goodIn_app (goodIn_of _ (by decide +kernel)) ggX10_packs_X10_workOut
set_option maxRecDepth 20000 in
theorem ggX10_packs_X2_packsBought : GoodIn wsX10_packs wsX2_packsBought := goodIn_ca (goodIn_ca (goodIn_r _ [170, 30, 33, 159, 166, 140, 171, 172, 150, 43, 44, 45, 15, 46, 17, 47, 48, 49, 50, 51, 52, 53, 54, 55, 56, 57, 58, 59, 187, 188, 189, 190, 191, 192, 193, 194, 195, 177, 178, 179, 180, 181, 182, 183, 210, 211, 212, 213, 184, 185, 186] (by decide +kernel) (by decide +kernel)) (goodIn_sub (fun _ h => List.mem_cons_of_mem _ (List.mem_append_left _ (List.mem_append_right _ h))) (by decide +kernel))) (goodIn_sub (fun _ h => List.mem_cons_of_mem _ (List.mem_append_right _ h)) (by decide +kernel))
set_option maxRecDepth 20000 in
theorem gX10_packs_X2_packsBought : GoodIn wsX10_packs (wsV RX10 269 RX2 yX2_packsBought wsX2_packsBought) := goodIn_app (goodIn_of _ (by decide +kernel)) ggX10_packs_X2_packsBought
theorem dX10_packs_0 : decode cX10_packs 0 = .ok (.aload_n 0, 1) := by decide +kernel
theorem dX10_packs_1 : decode cX10_packs 1 = .ok (.iload_n 1, 1) := by decide +kernel
theorem dX10_packs_2 : decode cX10_packs 2 = .ok (.invokevirtual 60, 3) := by decide +kernel
theorem dX10_packs_5 : decode cX10_packs 5 = .ok (.aload_n 0, 1) := by decide +kernel
theorem dX10_packs_6 : decode cX10_packs 6 = .ok (.aload_n 0, 1) := by decide +kernel
theorem dX10_packs_7 : decode cX10_packs 7 = .ok (.getfield 25, 3) := by decide +kernel
theorem dX10_packs_10 : decode cX10_packs 10 = .ok (.invokevirtual 142, 3) := by decide +kernel
theorem dX10_packs_13 : decode cX10_packs 13 = .ok (.aload_n 0, 1) := by decide +kernel
theorem dX10_packs_14 : decode cX10_packs 14 = .ok (.getfield 21, 3) := by decide +kernel
theorem dX10_packs_17 : decode cX10_packs 17 = .ok (.iload_n 1, 1) := by decide +kernel
theorem dX10_packs_18 : decode cX10_packs 18 = .ok (.invokevirtual 269, 3) := by decide +kernel
theorem dX10_packs_21 : decode cX10_packs 21 = .ok (.lreturn, 1) := by decide +kernel
set_option maxRecDepth 20000 in
theorem ggX10_costOfLine_X10_checkLine : GoodIn wsX10_costOfLine wsX10_checkLine := goodIn_ca (goodIn_r _ [7, 8, 9, 10, 11, 12, 13, 14, 15, 16, 17, 18, 19, 6, 20, 181, 182, 183, 184, 185, 186, 187, 188, 189, 190, 191, 192, 193] (by decide +kernel) (by decide +kernel)) (goodIn_sub (fun _ h => List.mem_cons_of_mem _ (List.mem_append_left _ (List.mem_append_left _ (List.mem_append_right _ h)))) (by decide +kernel))
set_option maxRecDepth 20000 in
theorem gX10_costOfLine_X10_checkLine : GoodIn wsX10_costOfLine (wsV RX10 159 RX10 yX10_checkLine wsX10_checkLine) := goodIn_app (goodIn_of _ (by decide +kernel)) ggX10_costOfLine_X10_checkLine
set_option maxRecDepth 20000 in
theorem ggX10_costOfLine_X10_workOut : GoodIn wsX10_costOfLine wsX10_workOut := goodIn_ca (goodIn_ca (goodIn_r _ [24, 2, 25, 26, 27, 28, 29, 30, 31, 32, 33, 34, 35, 13, 14, 15, 16, 17, 36, 37, 38, 39, 40, 41, 42, 43, 44, 45, 46, 47, 48, 49, 50, 51, 52, 53, 54, 55, 56, 57, 58, 59, 60, 6, 61, 62, 63, 64, 65, 66, 67, 68, 69, 70, 71, 72, 73, 74, 75, 76, 77, 78, 79, 80, 81, 82, 83, 84, 85, 86, 87, 88, 89, 90, 91, 92, 93, 94, 95, 96, 97, 98, 99, 100, 101, 102, 103, 104, 105, 106, 107, 108, 109, 110, 111, 112, 113, 114, 115, 116, 117, 118, 119, 120, 121, 122, 123, 124, 125, 126, 127, 128, 129, 130, 131, 132, 133, 134, 135, 136, 137, 138, 139, 140, 141, 142, 143, 144, 145, 146, 147, 148, 149, 150, 151, 152, 153, 154, 155, 156, 157, 158, 159, 160, 161, 162, 163, 164, 165, 166, 167, 168, 169, 170, 171, 172, 181, 182, 183, 194, 195, 196, 197, 198, 199, 200, 201, 202, 184, 185, 186, 187, 188, 189, 190, 191, 192, 193, 203, 204, 205, 206, 207, 208, 209, 210, 211, 212, 213, 214, 215, 216, 217, 218, 219, 220] (by decide +kernel) (by decide +kernel)) (goodIn_sub (fun _ h => List.mem_cons_of_mem _ (List.mem_append_left _ (List.mem_append_right _ h))) (by decide +kernel))) (goodIn_sub (fun _ h => List.mem_cons_of_mem _ (List.mem_append_right _ h)) (by decide +kernel))
set_option maxRecDepth 20000 in
theorem gX10_costOfLine_X10_workOut : GoodIn wsX10_costOfLine (wsV RX10 142 RX10 yX10_workOut wsX10_workOut) := goodIn_app (goodIn_of _ (by decide +kernel)) ggX10_costOfLine_X10_workOut
set_option maxRecDepth 20000 in
theorem ggX10_costOfLine_X2_lineCost : GoodIn wsX10_costOfLine wsX2_lineCost := goodIn_ca (goodIn_r _ [176, 30, 128, 129, 131, 119, 32, 130, 43, 44, 45, 15, 46, 17, 47, 48, 49, 50, 51, 52, 53, 54, 55, 56, 57, 58, 59, 177, 178, 179, 28, 180, 33, 159, 161, 35, 13, 14, 16, 194, 195, 196, 197, 198, 199, 200, 201, 202, 184, 185, 186, 187, 188, 189, 190, 213, 214, 191, 192, 193, 217, 218, 219, 220] (by decide +kernel) (by decide +kernel)) (goodIn_sub (fun _ h => List.mem_cons_of_mem _ (List.mem_append_left _ (List.mem_append_right _ h))) (by decide +kernel))
set_option maxRecDepth 20000 in
theorem gX10_costOfLine_X2_lineCost : GoodIn wsX10_costOfLine (wsV RX10 272 RX2 yX2_lineCost wsX2_lineCost) := goodIn_app (goodIn_of _ (by decide +kernel)) ggX10_costOfLine_X2_lineCost
theorem dX10_costOfLine_0 : decode cX10_costOfLine 0 = .ok (.aload_n 0, 1) := by decide +kernel
theorem dX10_costOfLine_1 : decode cX10_costOfLine 1 = .ok (.iload_n 1, 1) := by decide +kernel
theorem dX10_costOfLine_2 : decode cX10_costOfLine 2 = .ok (.invokevirtual 159, 3) := by decide +kernel
theorem dX10_costOfLine_5 : decode cX10_costOfLine 5 = .ok (.aload_n 0, 1) := by decide +kernel
theorem dX10_costOfLine_6 : decode cX10_costOfLine 6 = .ok (.aload_n 0, 1) := by decide +kernel
theorem dX10_costOfLine_7 : decode cX10_costOfLine 7 = .ok (.getfield 25, 3) := by decide +kernel
theorem dX10_costOfLine_10 : decode cX10_costOfLine 10 = .ok (.invokevirtual 142, 3) := by decide +kernel
theorem dX10_costOfLine_13 : decode cX10_costOfLine 13 = .ok (.aload_n 0, 1) := by decide +kernel
theorem dX10_costOfLine_14 : decode cX10_costOfLine 14 = .ok (.getfield 21, 3) := by decide +kernel
theorem dX10_costOfLine_17 : decode cX10_costOfLine 17 = .ok (.iload_n 1, 1) := by decide +kernel
theorem dX10_costOfLine_18 : decode cX10_costOfLine 18 = .ok (.invokevirtual 272, 3) := by decide +kernel
theorem dX10_costOfLine_21 : decode cX10_costOfLine 21 = .ok (.lreturn, 1) := by decide +kernel
set_option maxRecDepth 20000 in
theorem ggX10_costOfTrade_X10_checkRange : GoodIn wsX10_costOfTrade wsX10_checkRange := goodIn_ca (goodIn_r _ [6, 7, 8] (by decide +kernel) (by decide +kernel)) (goodIn_sub (fun _ h => List.mem_cons_of_mem _ (List.mem_append_left _ (List.mem_append_left _ (List.mem_append_right _ h)))) (by decide +kernel))
set_option maxRecDepth 20000 in
theorem gX10_costOfTrade_X10_checkRange : GoodIn wsX10_costOfTrade (va_wsS RX10 33 yX10_checkRange wsX10_checkRange) := goodIn_app (goodIn_of _ (by decide +kernel)) ggX10_costOfTrade_X10_checkRange
set_option maxRecDepth 20000 in
theorem ggX10_costOfTrade_X10_workOut : GoodIn wsX10_costOfTrade wsX10_workOut := goodIn_ca (goodIn_ca (goodIn_r _ [12, 2, 13, 14, 15, 16, 17, 18, 19, 20, 21, 22, 23, 24, 25, 26, 27, 28, 29, 30, 31, 32, 33, 34, 35, 36, 37, 38, 39, 40, 41, 42, 43, 44, 45, 46, 47, 48, 49, 50, 51, 52, 53, 5, 54, 55, 56, 57, 58, 59, 60, 61, 62, 63, 64, 65, 66, 67, 68, 69, 70, 71, 72, 73, 74, 75, 76, 77, 78, 79, 80, 81, 82, 83, 84, 85, 86, 87, 88, 89, 90, 91, 92, 93, 94, 95, 96, 97, 98, 99, 100, 101, 102, 103, 104, 105, 106, 107, 108, 109, 110, 111, 112, 113, 114, 115, 116, 117, 118, 119, 120, 121, 122, 123, 124, 125, 126, 127, 128, 129, 130, 131, 132, 133, 134, 135, 136, 137, 138, 139, 140, 141, 142, 143, 144, 145, 146, 147, 148, 149, 150, 151, 152, 153, 154, 155, 156, 157, 158, 159, 160, 161, 162, 163, 164, 165, 175, 176, 177, 178, 179, 180, 181, 182, 183, 184, 185, 186, 187, 188, 189, 190, 191, 192, 193, 194, 195, 196, 197, 198, 199, 200, 201, 202, 203, 204, 205, 206, 207, 208, 209, 210, 211, 212, 213, 214] (by decide +kernel) (by decide +kernel)) (goodIn_sub (fun _ h => List.mem_cons_of_mem _ (List.mem_append_left _ (List.mem_append_right _ h))) (by decide +kernel))) (goodIn_sub (fun _ h => List.mem_cons_of_mem _ (List.mem_append_right _ h)) (by decide +kernel))
set_option maxRecDepth 20000 in
theorem gX10_costOfTrade_X10_workOut : GoodIn wsX10_costOfTrade (wsV RX10 142 RX10 yX10_workOut wsX10_workOut) := goodIn_app (goodIn_of _ (by decide +kernel)) ggX10_costOfTrade_X10_workOut
set_option maxRecDepth 20000 in
theorem ggX10_costOfTrade_X2_tradeCost : GoodIn wsX10_costOfTrade wsX2_tradeCost := goodIn_ca (goodIn_r _ [169, 18, 19, 73, 170, 120, 90, 23, 24, 25, 26, 27, 28, 36, 37, 38, 39, 40, 41, 42, 43, 44, 45, 46, 47, 48, 49, 50, 51, 52, 171, 172, 173, 16, 174, 21, 152, 154, 178, 179, 180, 181, 182, 183, 184, 185, 186, 187, 188, 189, 190, 191, 192, 193, 199, 200, 194, 195, 196, 211, 212, 213, 214] (by decide +kernel) (by decide +kernel)) (goodIn_sub (fun _ h => List.mem_cons_of_mem _ (List.mem_append_left _ (List.mem_append_right _ h))) (by decide +kernel))
set_option maxRecDepth 20000 in
theorem gX10_costOfTrade_X2_tradeCost : GoodIn wsX10_costOfTrade (wsV RX10 275 RX2 yX2_tradeCost wsX2_tradeCost) := goodIn_app (goodIn_of _ (by decide +kernel)) ggX10_costOfTrade_X2_tradeCost
theorem dX10_costOfTrade_0 : decode cX10_costOfTrade 0 = .ok (.iload_n 1, 1) := by decide +kernel
theorem dX10_costOfTrade_1 : decode cX10_costOfTrade 1 = .ok (.iconst 0, 1) := by decide +kernel
theorem dX10_costOfTrade_2 : decode cX10_costOfTrade 2 = .ok (.iconst 5, 1) := by decide +kernel
theorem dX10_costOfTrade_3 : decode cX10_costOfTrade 3 = .ok (.invokestatic 33, 3) := by decide +kernel
theorem dX10_costOfTrade_6 : decode cX10_costOfTrade 6 = .ok (.aload_n 0, 1) := by decide +kernel
theorem dX10_costOfTrade_7 : decode cX10_costOfTrade 7 = .ok (.aload_n 0, 1) := by decide +kernel
theorem dX10_costOfTrade_8 : decode cX10_costOfTrade 8 = .ok (.getfield 25, 3) := by decide +kernel
theorem dX10_costOfTrade_11 : decode cX10_costOfTrade 11 = .ok (.invokevirtual 142, 3) := by decide +kernel
theorem dX10_costOfTrade_14 : decode cX10_costOfTrade 14 = .ok (.aload_n 0, 1) := by decide +kernel
theorem dX10_costOfTrade_15 : decode cX10_costOfTrade 15 = .ok (.getfield 21, 3) := by decide +kernel
theorem dX10_costOfTrade_18 : decode cX10_costOfTrade 18 = .ok (.iload_n 1, 1) := by decide +kernel
theorem dX10_costOfTrade_19 : decode cX10_costOfTrade 19 = .ok (.invokevirtual 275, 3) := by decide +kernel
theorem dX10_costOfTrade_22 : decode cX10_costOfTrade 22 = .ok (.lreturn, 1) := by decide +kernel
set_option maxRecDepth 20000 in
theorem ggX10_costOfKind_X10_checkKind : GoodIn wsX10_costOfKind wsX10_checkKind := goodIn_ca (goodIn_r _ [6, 7, 8] (by decide +kernel) (by decide +kernel)) (goodIn_sub (fun _ h => List.mem_cons_of_mem _ (List.mem_append_left _ (List.mem_append_left _ (List.mem_append_right _ h)))) (by decide +kernel))
set_option maxRecDepth 20000 in
theorem gX10_costOfKind_X10_checkKind : GoodIn wsX10_costOfKind (va_wsS RX10 29 yX10_checkKind wsX10_checkKind) := goodIn_app (goodIn_of _ (by decide +kernel)) ggX10_costOfKind_X10_checkKind
set_option maxRecDepth 20000 in
theorem ggX10_costOfKind_X10_workOut : GoodIn wsX10_costOfKind wsX10_workOut := goodIn_ca (goodIn_ca (goodIn_r _ [12, 2, 13, 14, 15, 16, 17, 18, 19, 20, 21, 22, 23, 24, 25, 26, 27, 28, 29, 30, 31, 32, 33, 34, 35, 36, 37, 38, 39, 40, 41, 42, 43, 44, 45, 46, 47, 48, 49, 50, 51, 52, 53, 5, 54, 55, 56, 57, 58, 59, 60, 61, 62, 63, 64, 65, 66, 67, 68, 69, 70, 71, 72, 73, 74, 75, 76, 77, 78, 79, 80, 81, 82, 83, 84, 85, 86, 87, 88, 89, 90, 91, 92, 93, 94, 95, 96, 97, 98, 99, 100, 101, 102, 103, 104, 105, 106, 107, 108, 109, 110, 111, 112, 113, 114, 115, 116, 117, 118, 119, 120, 121, 122, 123, 124, 125, 126, 127, 128, 129, 130, 131, 132, 133, 134, 135, 136, 137, 138, 139, 140, 141, 142, 143, 144, 145, 146, 147, 148, 149, 150, 151, 152, 153, 154, 155, 156, 157, 158, 159, 160, 161, 162, 163, 164, 165, 167, 168, 169, 170, 171, 172, 173, 174, 175, 176, 177, 178, 179, 180, 181, 182, 183, 184, 185, 186, 187, 188, 189, 190, 191, 192, 193, 194, 195, 196, 197, 198, 199, 200, 201, 202, 203, 204, 205, 206] (by decide +kernel) (by decide +kernel)) (goodIn_sub (fun _ h => List.mem_cons_of_mem _ (List.mem_append_left _ (List.mem_append_right _ h))) (by decide +kernel))) (goodIn_sub (fun _ h => List.mem_cons_of_mem _ (List.mem_append_right _ h)) (by decide +kernel))
set_option maxRecDepth 20000 in
theorem gX10_costOfKind_X10_workOut : GoodIn wsX10_costOfKind (wsV RX10 142 RX10 yX10_workOut wsX10_workOut) := goodIn_app (goodIn_of _ (by decide +kernel)) ggX10_costOfKind_X10_workOut
set_option maxRecDepth 20000 in
theorem ggX10_costOfKind_X2_kindCost : GoodIn wsX10_costOfKind wsX2_kindCost := goodIn_ca (goodIn_r _ [151, 18, 21, 152, 153, 133, 154, 23, 24, 25, 26, 27, 28, 36, 37, 38, 39, 40, 41, 42, 43, 44, 45, 46, 47, 48, 49, 50, 51, 52, 170, 171, 172, 173, 174, 175, 176, 177, 178, 179, 180, 181, 182, 183, 184, 185, 203, 204, 205, 206, 186, 187, 188] (by decide +kernel) (by decide +kernel)) (goodIn_sub (fun _ h => List.mem_cons_of_mem _ (List.mem_append_left _ (List.mem_append_right _ h))) (by decide +kernel))
set_option maxRecDepth 20000 in
theorem gX10_costOfKind_X2_kindCost : GoodIn wsX10_costOfKind (wsV RX10 278 RX2 yX2_kindCost wsX2_kindCost) := goodIn_app (goodIn_of _ (by decide +kernel)) ggX10_costOfKind_X2_kindCost
theorem dX10_costOfKind_0 : decode cX10_costOfKind 0 = .ok (.iload_n 1, 1) := by decide +kernel
theorem dX10_costOfKind_1 : decode cX10_costOfKind 1 = .ok (.invokestatic 29, 3) := by decide +kernel
theorem dX10_costOfKind_4 : decode cX10_costOfKind 4 = .ok (.aload_n 0, 1) := by decide +kernel
theorem dX10_costOfKind_5 : decode cX10_costOfKind 5 = .ok (.aload_n 0, 1) := by decide +kernel
theorem dX10_costOfKind_6 : decode cX10_costOfKind 6 = .ok (.getfield 25, 3) := by decide +kernel
theorem dX10_costOfKind_9 : decode cX10_costOfKind 9 = .ok (.invokevirtual 142, 3) := by decide +kernel
theorem dX10_costOfKind_12 : decode cX10_costOfKind 12 = .ok (.aload_n 0, 1) := by decide +kernel
theorem dX10_costOfKind_13 : decode cX10_costOfKind 13 = .ok (.getfield 21, 3) := by decide +kernel
theorem dX10_costOfKind_16 : decode cX10_costOfKind 16 = .ok (.iload_n 1, 1) := by decide +kernel
theorem dX10_costOfKind_17 : decode cX10_costOfKind 17 = .ok (.invokevirtual 278, 3) := by decide +kernel
theorem dX10_costOfKind_20 : decode cX10_costOfKind 20 = .ok (.lreturn, 1) := by decide +kernel
set_option maxRecDepth 20000 in
theorem ggX10_net_X10_workOut : GoodIn wsX10_net wsX10_workOut := goodIn_ca (goodIn_ca (goodIn_r _ [7, 2, 8, 9, 10, 11, 12, 13, 14, 15, 16, 17, 18, 19, 20, 21, 22, 23, 24, 25, 26, 27, 28, 29, 30, 31, 32, 33, 34, 35, 36, 37, 38, 39, 40, 41, 42, 43, 44, 45, 46, 47, 48, 6, 49, 50, 51, 52, 53, 54, 55, 56, 57, 58, 59, 60, 61, 62, 63, 64, 65, 66, 67, 68, 69, 70, 71, 72, 73, 74, 75, 76, 77, 78, 79, 80, 81, 82, 83, 84, 85, 86, 87, 88, 89, 90, 91, 92, 93, 94, 95, 96, 97, 98, 99, 100, 101, 102, 103, 104, 105, 106, 107, 108, 109, 110, 111, 112, 113, 114, 115, 116, 117, 118, 119, 120, 121, 122, 123, 124, 125, 126, 127, 128, 129, 130, 131, 132, 133, 134, 135, 136, 137, 138, 139, 140, 141, 142, 143, 144, 145, 146, 147, 148, 149, 150, 151, 152, 153, 154, 155, 156, 157, 158, 159, 160, 169, 170, 171, 172, 173, 174, 175, 176, 177, 178, 179, 180, 181, 182, 183, 184, 185, 186, 187, 188, 189, 190, 191, 192, 193, 194, 195, 196, 197, 198, 199, 200, 201, 202, 203, 204, 205, 206, 207, 208] (by decide +kernel) (by decide +kernel)) (goodIn_sub (fun _ h => List.mem_cons_of_mem _ (List.mem_append_left _ (List.mem_append_right _ h))) (by decide +kernel))) (goodIn_sub (fun _ h => List.mem_cons_of_mem _ (List.mem_append_right _ h)) (by decide +kernel))
set_option maxRecDepth 20000 in
theorem gX10_net_X10_workOut : GoodIn wsX10_net (wsV RX10 142 RX10 yX10_workOut wsX10_workOut) := goodIn_app (goodIn_of _ (by decide +kernel)) ggX10_net_X10_workOut
set_option maxRecDepth 20000 in
theorem ggX10_net_X2_netCost : GoodIn wsX10_net wsX2_netCost := goodIn_ca (goodIn_r _ [164, 128, 165, 166, 167, 11, 168, 13, 16, 147, 149, 18, 19, 20, 21, 22, 23, 31, 32, 33, 34, 35, 36, 37, 38, 39, 40, 41, 42, 43, 44, 45, 46, 47, 172, 173, 174, 175, 176, 177, 178, 179, 180, 181, 182, 183, 184, 185, 186, 187, 205, 206, 207, 208, 188, 189, 190] (by decide +kernel) (by decide +kernel)) (goodIn_sub (fun _ h => List.mem_cons_of_mem _ (List.mem_append_left _ (List.mem_append_right _ h))) (by decide +kernel))
set_option maxRecDepth 20000 in
theorem gX10_net_X2_netCost : GoodIn wsX10_net (wsV RX10 281 RX2 yX2_netCost wsX2_netCost) := goodIn_app (goodIn_of _ (by decide +kernel)) ggX10_net_X2_netCost
theorem dX10_net_0 : decode cX10_net 0 = .ok (.aload_n 0, 1) := by decide +kernel
theorem dX10_net_1 : decode cX10_net 1 = .ok (.aload_n 0, 1) := by decide +kernel
theorem dX10_net_2 : decode cX10_net 2 = .ok (.getfield 25, 3) := by decide +kernel
theorem dX10_net_5 : decode cX10_net 5 = .ok (.invokevirtual 142, 3) := by decide +kernel
theorem dX10_net_8 : decode cX10_net 8 = .ok (.aload_n 0, 1) := by decide +kernel
theorem dX10_net_9 : decode cX10_net 9 = .ok (.getfield 21, 3) := by decide +kernel
theorem dX10_net_12 : decode cX10_net 12 = .ok (.invokevirtual 281, 3) := by decide +kernel
theorem dX10_net_15 : decode cX10_net 15 = .ok (.lreturn, 1) := by decide +kernel
set_option maxRecDepth 20000 in
theorem ggX10_extra_X10_workOut : GoodIn wsX10_extra wsX10_workOut := goodIn_ca (goodIn_ca (goodIn_r _ [7, 2, 8, 9, 10, 11, 12, 13, 14, 15, 16, 17, 18, 19, 20, 21, 22, 23, 24, 25, 26, 27, 28, 29, 30, 31, 32, 33, 34, 35, 36, 37, 38, 39, 40, 41, 42, 43, 44, 45, 46, 47, 48, 6, 49, 50, 51, 52, 53, 54, 55, 56, 57, 58, 59, 60, 61, 62, 63, 64, 65, 66, 67, 68, 69, 70, 71, 72, 73, 74, 75, 76, 77, 78, 79, 80, 81, 82, 83, 84, 85, 86, 87, 88, 89, 90, 91, 92, 93, 94, 95, 96, 97, 98, 99, 100, 101, 102, 103, 104, 105, 106, 107, 108, 109, 110, 111, 112, 113, 114, 115, 116, 117, 118, 119, 120, 121, 122, 123, 124, 125, 126, 127, 128, 129, 130, 131, 132, 133, 134, 135, 136, 137, 138, 139, 140, 141, 142, 143, 144, 145, 146, 147, 148, 149, 150, 151, 152, 153, 154, 155, 156, 157, 158, 159, 160, 162, 163, 164, 165, 166, 167, 168, 169, 170, 171, 172, 173, 174, 175, 176, 177, 178, 179, 180, 181, 182, 183, 184, 185, 186, 187, 188, 189, 190, 191, 192, 193, 194, 195, 196, 197, 198, 199, 200, 201] (by decide +kernel) (by decide +kernel)) (goodIn_sub (fun _ h => List.mem_cons_of_mem _ (List.mem_append_left _ (List.mem_append_right _ h))) (by decide +kernel))) (goodIn_sub (fun _ h => List.mem_cons_of_mem _ (List.mem_append_right _ h)) (by decide +kernel))
set_option maxRecDepth 20000 in
theorem gX10_extra_X10_workOut : GoodIn wsX10_extra (wsV RX10 142 RX10 yX10_workOut wsX10_workOut) := goodIn_app (goodIn_of _ (by decide +kernel)) ggX10_extra_X10_workOut
set_option maxRecDepth 20000 in
theorem ggX10_extra_X2_extraCost : GoodIn wsX10_extra wsX2_extraCost := goodIn_ca (goodIn_ca (goodIn_r _ [153, 13, 16, 147, 154, 128, 149, 18, 19, 20, 21, 22, 23, 31, 32, 33, 34, 35, 36, 37, 38, 39, 40, 41, 42, 43, 44, 45, 46, 47, 155, 156, 157, 11, 158, 159, 160, 138, 165, 166, 167, 168, 169, 170, 171, 172, 173, 174, 175, 176, 177, 178, 179, 180, 198, 199, 200, 201, 181, 182, 183] (by decide +kernel) (by decide +kernel)) (goodIn_sub (fun _ h => List.mem_cons_of_mem _ (List.mem_append_left _ (List.mem_append_right _ h))) (by decide +kernel))) (goodIn_sub (fun _ h => List.mem_cons_of_mem _ (List.mem_append_right _ h)) (by decide +kernel))
set_option maxRecDepth 20000 in
theorem gX10_extra_X2_extraCost : GoodIn wsX10_extra (wsV RX10 284 RX2 yX2_extraCost wsX2_extraCost) := goodIn_app (goodIn_of _ (by decide +kernel)) ggX10_extra_X2_extraCost
theorem dX10_extra_0 : decode cX10_extra 0 = .ok (.aload_n 0, 1) := by decide +kernel
theorem dX10_extra_1 : decode cX10_extra 1 = .ok (.aload_n 0, 1) := by decide +kernel
theorem dX10_extra_2 : decode cX10_extra 2 = .ok (.getfield 25, 3) := by decide +kernel
theorem dX10_extra_5 : decode cX10_extra 5 = .ok (.invokevirtual 142, 3) := by decide +kernel
theorem dX10_extra_8 : decode cX10_extra 8 = .ok (.aload_n 0, 1) := by decide +kernel
theorem dX10_extra_9 : decode cX10_extra 9 = .ok (.getfield 21, 3) := by decide +kernel
theorem dX10_extra_12 : decode cX10_extra 12 = .ok (.invokevirtual 284, 3) := by decide +kernel
theorem dX10_extra_15 : decode cX10_extra 15 = .ok (.lreturn, 1) := by decide +kernel
set_option maxRecDepth 20000 in
theorem ggX10_total_X10_workOut : GoodIn wsX10_total wsX10_workOut := goodIn_ca (goodIn_ca (goodIn_r _ [7, 2, 8, 9, 10, 11, 12, 13, 14, 15, 16, 17, 18, 19, 20, 21, 22, 23, 24, 25, 26, 27, 28, 29, 30, 31, 32, 33, 34, 35, 36, 37, 38, 39, 40, 41, 42, 43, 44, 45, 46, 47, 48, 6, 49, 50, 51, 52, 53, 54, 55, 56, 57, 58, 59, 60, 61, 62, 63, 64, 65, 66, 67, 68, 69, 70, 71, 72, 73, 74, 75, 76, 77, 78, 79, 80, 81, 82, 83, 84, 85, 86, 87, 88, 89, 90, 91, 92, 93, 94, 95, 96, 97, 98, 99, 100, 101, 102, 103, 104, 105, 106, 107, 108, 109, 110, 111, 112, 113, 114, 115, 116, 117, 118, 119, 120, 121, 122, 123, 124, 125, 126, 127, 128, 129, 130, 131, 132, 133, 134, 135, 136, 137, 138, 139, 140, 141, 142, 143, 144, 145, 146, 147, 148, 149, 150, 151, 152, 153, 154, 155, 156, 157, 158, 159, 160, 173, 174, 175, 176, 177, 178, 179, 180, 181, 182, 183, 184, 185, 186, 187, 188, 189, 190, 191, 192, 193, 194, 195, 196, 197, 198, 199, 200, 201, 202, 203, 204, 205, 206, 207, 208, 209, 210, 211, 212] (by decide +kernel) (by decide +kernel)) (goodIn_sub (fun _ h => List.mem_cons_of_mem _ (List.mem_append_left _ (List.mem_append_right _ h))) (by decide +kernel))) (goodIn_sub (fun _ h => List.mem_cons_of_mem _ (List.mem_append_right _ h)) (by decide +kernel))
set_option maxRecDepth 20000 in
theorem gX10_total_X10_workOut : GoodIn wsX10_total (wsV RX10 142 RX10 yX10_workOut wsX10_workOut) := goodIn_app (goodIn_of _ (by decide +kernel)) ggX10_total_X10_workOut
set_option maxRecDepth 20000 in
theorem ggX10_total_X2_totalCost : GoodIn wsX10_total wsX2_totalCost := goodIn_ca (goodIn_ca (goodIn_r _ [164, 13, 133, 135, 165, 166, 167, 11, 168, 128, 169, 170, 171, 172, 16, 147, 149, 18, 19, 20, 21, 22, 23, 31, 32, 33, 34, 35, 36, 37, 38, 39, 40, 41, 42, 43, 44, 45, 46, 47, 150, 151, 152, 153, 154, 155, 156, 157, 158, 159, 160, 138, 176, 177, 178, 179, 180, 181, 182, 183, 184, 185, 186, 187, 188, 189, 190, 191, 209, 210, 211, 212, 192, 193, 194] (by decide +kernel) (by decide +kernel)) (goodIn_sub (fun _ h => List.mem_cons_of_mem _ (List.mem_append_left _ (List.mem_append_right _ h))) (by decide +kernel))) (goodIn_sub (fun _ h => List.mem_cons_of_mem _ (List.mem_append_right _ h)) (by decide +kernel))
set_option maxRecDepth 20000 in
theorem gX10_total_X2_totalCost : GoodIn wsX10_total (wsV RX10 237 RX2 yX2_totalCost wsX2_totalCost) := goodIn_app (goodIn_of _ (by decide +kernel)) ggX10_total_X2_totalCost
theorem dX10_total_0 : decode cX10_total 0 = .ok (.aload_n 0, 1) := by decide +kernel
theorem dX10_total_1 : decode cX10_total 1 = .ok (.aload_n 0, 1) := by decide +kernel
theorem dX10_total_2 : decode cX10_total 2 = .ok (.getfield 25, 3) := by decide +kernel
theorem dX10_total_5 : decode cX10_total 5 = .ok (.invokevirtual 142, 3) := by decide +kernel
theorem dX10_total_8 : decode cX10_total 8 = .ok (.aload_n 0, 1) := by decide +kernel
theorem dX10_total_9 : decode cX10_total 9 = .ok (.getfield 21, 3) := by decide +kernel
theorem dX10_total_12 : decode cX10_total 12 = .ok (.invokevirtual 237, 3) := by decide +kernel
theorem dX10_total_15 : decode cX10_total 15 = .ok (.lreturn, 1) := by decide +kernel
set_option maxRecDepth 20000 in
theorem ggX10_dearest_X10_workOut : GoodIn wsX10_dearest wsX10_workOut := goodIn_ca (goodIn_ca (goodIn_r _ [11, 6, 12, 13, 14, 15, 16, 17, 18, 19, 20, 21, 22, 23, 24, 25, 26, 27, 28, 29, 30, 31, 32, 33, 34, 35, 36, 37, 38, 39, 40, 41, 42, 43, 44, 45, 46, 47, 48, 49, 50, 51, 52, 10, 53, 54, 55, 56, 57, 58, 59, 60, 61, 62, 63, 64, 65, 66, 67, 68, 69, 70, 71, 72, 73, 74, 75, 76, 77, 78, 79, 80, 81, 82, 83, 84, 85, 86, 87, 88, 89, 90, 91, 92, 93, 94, 95, 96, 97, 98, 99, 100, 101, 102, 103, 104, 105, 106, 107, 108, 109, 110, 111, 112, 113, 114, 115, 116, 117, 118, 119, 120, 121, 122, 123, 124, 125, 126, 127, 128, 129, 130, 131, 132, 133, 134, 135, 136, 137, 138, 139, 140, 141, 142, 143, 144, 145, 146, 147, 148, 149, 150, 151, 152, 153, 154, 155, 156, 157, 158, 159, 160, 161, 162, 163, 164, 175, 176, 177, 185, 186, 187, 188, 189, 190, 191, 192, 193, 178, 179, 180, 181, 182, 183, 184, 194, 195, 196, 197, 198, 199, 200, 201, 202, 203, 204, 205, 206, 207, 208, 209, 210, 211, 212, 213, 214] (by decide +kernel) (by decide +kernel)) (goodIn_sub (fun _ h => List.mem_cons_of_mem _ (List.mem_append_left _ (List.mem_append_right _ h))) (by decide +kernel))) (goodIn_sub (fun _ h => List.mem_cons_of_mem _ (List.mem_append_right _ h)) (by decide +kernel))
set_option maxRecDepth 20000 in
theorem gX10_dearest_X10_workOut : GoodIn wsX10_dearest (wsV RX10 142 RX10 yX10_workOut wsX10_workOut) := goodIn_app (goodIn_of _ (by decide +kernel)) ggX10_dearest_X10_workOut
set_option maxRecDepth 20000 in
theorem ggX10_dearest_Jx4a65c_size_8abf5 : GoodIn wsX10_dearest wsJx4a65c_size_8abf5 := goodIn_r _ [26, 27, 194, 195, 196] (by decide +kernel) (by decide +kernel)
set_option maxRecDepth 20000 in
theorem gX10_dearest_Jx4a65c_size_8abf5 : GoodIn wsX10_dearest (wsV RX10 41 RJx4a65c yJx4a65c_size_8abf5 wsJx4a65c_size_8abf5) := goodIn_app (goodIn_of _ (by decide +kernel)) ggX10_dearest_Jx4a65c_size_8abf5
set_option maxRecDepth 20000 in
theorem ggX10_dearest_X2_resourceCost : GoodIn wsX10_dearest wsX2_resourceCost := goodIn_ca (goodIn_r _ [169, 132, 17, 20, 151, 153, 35, 36, 37, 25, 38, 27, 39, 40, 41, 42, 43, 44, 45, 46, 47, 48, 49, 50, 51, 185, 186, 187, 188, 189, 190, 191, 192, 193, 178, 179, 180, 181, 182, 183, 184, 211, 212, 213, 214, 194, 195, 196] (by decide +kernel) (by decide +kernel)) (goodIn_sub (fun _ h => List.mem_cons_of_mem _ (List.mem_append_left _ (List.mem_append_right _ h))) (by decide +kernel))
set_option maxRecDepth 20000 in
theorem gX10_dearest_X2_resourceCost : GoodIn wsX10_dearest (wsV RX10 287 RX2 yX2_resourceCost wsX2_resourceCost) := goodIn_app (goodIn_of _ (by decide +kernel)) ggX10_dearest_X2_resourceCost
set_option maxRecDepth 20000 in
theorem ggX10_dearest_X2_rankOf : GoodIn wsX10_dearest wsX2_rankOf := goodIn_ca (goodIn_r _ [173, 17, 20, 174, 167, 168, 15, 169, 132, 151, 153, 35, 36, 37, 25, 38, 27, 39, 40, 41, 42, 43, 44, 45, 46, 47, 48, 49, 50, 51, 22, 23, 24, 26, 185, 186, 187, 188, 189, 190, 191, 192, 193, 178, 179, 180, 181, 182, 183, 184, 211, 212, 213, 214, 194, 195, 196] (by decide +kernel) (by decide +kernel)) (goodIn_sub (fun _ h => List.mem_cons_of_mem _ (List.mem_append_left _ (List.mem_append_right _ h))) (by decide +kernel))
set_option maxRecDepth 20000 in
theorem gX10_dearest_X2_rankOf : GoodIn wsX10_dearest (wsV RX10 290 RX2 yX2_rankOf wsX2_rankOf) := goodIn_app (goodIn_of _ (by decide +kernel)) ggX10_dearest_X2_rankOf
theorem dX10_dearest_0 : decode cX10_dearest 0 = .ok (.aload_n 0, 1) := by decide +kernel
theorem dX10_dearest_1 : decode cX10_dearest 1 = .ok (.aload_n 0, 1) := by decide +kernel
theorem dX10_dearest_2 : decode cX10_dearest 2 = .ok (.getfield 25, 3) := by decide +kernel
theorem dX10_dearest_5 : decode cX10_dearest 5 = .ok (.invokevirtual 142, 3) := by decide +kernel
theorem dX10_dearest_8 : decode cX10_dearest 8 = .ok (.iconst 0, 1) := by decide +kernel
theorem dX10_dearest_9 : decode cX10_dearest 9 = .ok (.istore_n 2, 1) := by decide +kernel
theorem dX10_dearest_10 : decode cX10_dearest 10 = .ok (.iload_n 2, 1) := by decide +kernel
theorem dX10_dearest_11 : decode cX10_dearest 11 = .ok (.aload_n 0, 1) := by decide +kernel
theorem dX10_dearest_12 : decode cX10_dearest 12 = .ok (.getfield 10, 3) := by decide +kernel
theorem dX10_dearest_15 : decode cX10_dearest 15 = .ok (.getfield 37, 3) := by decide +kernel
theorem dX10_dearest_18 : decode cX10_dearest 18 = .ok (.invokevirtual 41, 3) := by decide +kernel
theorem dX10_dearest_21 : decode cX10_dearest 21 = .ok (.if_icmp .ge 36, 3) := by decide +kernel
theorem dX10_dearest_24 : decode cX10_dearest 24 = .ok (.aload_n 0, 1) := by decide +kernel
theorem dX10_dearest_25 : decode cX10_dearest 25 = .ok (.getfield 21, 3) := by decide +kernel
theorem dX10_dearest_28 : decode cX10_dearest 28 = .ok (.iload_n 2, 1) := by decide +kernel
theorem dX10_dearest_29 : decode cX10_dearest 29 = .ok (.invokevirtual 287, 3) := by decide +kernel
theorem dX10_dearest_32 : decode cX10_dearest 32 = .ok (.lconst 0, 1) := by decide +kernel
theorem dX10_dearest_33 : decode cX10_dearest 33 = .ok (.lcmp, 1) := by decide +kernel
theorem dX10_dearest_34 : decode cX10_dearest 34 = .ok (.ifCond .le 17, 3) := by decide +kernel
theorem dX10_dearest_37 : decode cX10_dearest 37 = .ok (.aload_n 0, 1) := by decide +kernel
theorem dX10_dearest_38 : decode cX10_dearest 38 = .ok (.getfield 21, 3) := by decide +kernel
theorem dX10_dearest_41 : decode cX10_dearest 41 = .ok (.iload_n 2, 1) := by decide +kernel
theorem dX10_dearest_42 : decode cX10_dearest 42 = .ok (.invokevirtual 290, 3) := by decide +kernel
theorem dX10_dearest_45 : decode cX10_dearest 45 = .ok (.iload_n 1, 1) := by decide +kernel
theorem dX10_dearest_46 : decode cX10_dearest 46 = .ok (.if_icmp .ne 5, 3) := by decide +kernel
theorem dX10_dearest_49 : decode cX10_dearest 49 = .ok (.iload_n 2, 1) := by decide +kernel
theorem dX10_dearest_50 : decode cX10_dearest 50 = .ok (.ireturn, 1) := by decide +kernel
theorem dX10_dearest_51 : decode cX10_dearest 51 = .ok (.iinc 2 1, 3) := by decide +kernel
theorem dX10_dearest_54 : decode cX10_dearest 54 = .ok (.goto (-44), 3) := by decide +kernel
theorem dX10_dearest_57 : decode cX10_dearest 57 = .ok (.new 294, 3) := by decide +kernel
theorem dX10_dearest_60 : decode cX10_dearest 60 = .ok (.dup, 1) := by decide +kernel
theorem dX10_dearest_61 : decode cX10_dearest 61 = .ok (.ldc_w 296, 3) := by decide +kernel
theorem dX10_dearest_64 : decode cX10_dearest 64 = .ok (.invokespecial 298, 3) := by decide +kernel
theorem dX10_dearest_67 : decode cX10_dearest 67 = .ok (.athrow, 1) := by decide +kernel
set_option maxRecDepth 20000 in
theorem ggX10_share_X10_checkKind : GoodIn wsX10_share wsX10_checkKind := goodIn_ca (goodIn_r _ [6, 7, 8] (by decide +kernel) (by decide +kernel)) (goodIn_sub (fun _ h => List.mem_cons_of_mem _ (List.mem_append_left _ (List.mem_append_left _ (List.mem_append_left _ (List.mem_append_right _ h))))) (by decide +kernel))
set_option maxRecDepth 20000 in
theorem gX10_share_X10_checkKind : GoodIn wsX10_share (va_wsS RX10 29 yX10_checkKind wsX10_checkKind) := goodIn_app (goodIn_of _ (by decide +kernel)) ggX10_share_X10_checkKind
set_option maxRecDepth 20000 in
theorem ggX10_share_X10_workOut : GoodIn wsX10_share wsX10_workOut := goodIn_ca (goodIn_ca (goodIn_r _ [12, 2, 13, 14, 15, 16, 17, 18, 19, 20, 21, 22, 23, 24, 25, 26, 27, 28, 29, 30, 31, 32, 33, 34, 35, 36, 37, 38, 39, 40, 41, 42, 43, 44, 45, 46, 47, 48, 49, 50, 51, 52, 53, 5, 54, 55, 56, 57, 58, 59, 60, 61, 62, 63, 64, 65, 66, 67, 68, 69, 70, 71, 72, 73, 74, 75, 76, 77, 78, 79, 80, 81, 82, 83, 84, 85, 86, 87, 88, 89, 90, 91, 92, 93, 94, 95, 96, 97, 98, 99, 100, 101, 102, 103, 104, 105, 106, 107, 108, 109, 110, 111, 112, 113, 114, 115, 116, 117, 118, 119, 120, 121, 122, 123, 124, 125, 126, 127, 128, 129, 130, 131, 132, 133, 134, 135, 136, 137, 138, 139, 140, 141, 142, 143, 144, 145, 146, 147, 148, 149, 150, 151, 152, 153, 154, 155, 156, 157, 158, 159, 160, 161, 162, 163, 164, 165, 180, 181, 182, 183, 184, 185, 186, 187, 188, 189, 190, 191, 192, 193, 194, 195, 196, 197, 198, 199, 200, 201, 202, 203, 204, 205, 206, 207, 208, 209, 210, 211, 212, 213, 214, 215, 216, 217, 218, 219] (by decide +kernel) (by decide +kernel)) (goodIn_sub (fun _ h => List.mem_cons_of_mem _ (List.mem_append_left _ (List.mem_append_left _ (List.mem_append_right _ h)))) (by decide +kernel))) (goodIn_sub (fun _ h => List.mem_cons_of_mem _ (List.mem_append_left _ (List.mem_append_right _ h))) (by decide +kernel))
set_option maxRecDepth 20000 in
theorem gX10_share_X10_workOut : GoodIn wsX10_share (wsV RX10 142 RX10 yX10_workOut wsX10_workOut) := goodIn_app (goodIn_of _ (by decide +kernel)) ggX10_share_X10_workOut
set_option maxRecDepth 20000 in
theorem ggX10_share_X2_netCost : GoodIn wsX10_share wsX2_netCost := goodIn_ca (goodIn_r _ [169, 133, 170, 171, 172, 16, 173, 18, 21, 152, 154, 23, 24, 25, 26, 27, 28, 36, 37, 38, 39, 40, 41, 42, 43, 44, 45, 46, 47, 48, 49, 50, 51, 52, 183, 184, 185, 186, 187, 188, 189, 190, 191, 192, 193, 194, 195, 196, 197, 198, 216, 217, 218, 219, 199, 200, 201] (by decide +kernel) (by decide +kernel)) (goodIn_sub (fun _ h => List.mem_cons_of_mem _ (List.mem_append_left _ (List.mem_append_left _ (List.mem_append_right _ h)))) (by decide +kernel))
set_option maxRecDepth 20000 in
theorem gX10_share_X2_netCost : GoodIn wsX10_share (wsV RX10 281 RX2 yX2_netCost wsX2_netCost) := goodIn_app (goodIn_of _ (by decide +kernel)) ggX10_share_X2_netCost
set_option maxRecDepth 20000 in
theorem ggX10_share_X10_checkDivisor : GoodIn wsX10_share wsX10_checkDivisor := goodIn_ca (goodIn_r _ [176, 177, 178] (by decide +kernel) (by decide +kernel)) (goodIn_sub (fun _ h => List.mem_cons_of_mem _ (List.mem_append_right _ h)) (by decide +kernel))
set_option maxRecDepth 20000 in
theorem gX10_share_X10_checkDivisor : GoodIn wsX10_share (va_wsS RX10 299 yX10_checkDivisor wsX10_checkDivisor) := goodIn_app (goodIn_of _ (by decide +kernel)) ggX10_share_X10_checkDivisor
set_option maxRecDepth 20000 in
theorem ggX10_share_X2_kindCost : GoodIn wsX10_share wsX2_kindCost := goodIn_ca (goodIn_r _ [151, 18, 21, 152, 153, 133, 154, 23, 24, 25, 26, 27, 28, 36, 37, 38, 39, 40, 41, 42, 43, 44, 45, 46, 47, 48, 49, 50, 51, 52, 183, 184, 185, 186, 187, 188, 189, 190, 191, 192, 193, 194, 195, 196, 197, 198, 216, 217, 218, 219, 199, 200, 201] (by decide +kernel) (by decide +kernel)) (goodIn_sub (fun _ h => List.mem_cons_of_mem _ (List.mem_append_left _ (List.mem_append_left _ (List.mem_append_right _ h)))) (by decide +kernel))
set_option maxRecDepth 20000 in
theorem gX10_share_X2_kindCost : GoodIn wsX10_share (wsV RX10 278 RX2 yX2_kindCost wsX2_kindCost) := goodIn_app (goodIn_of _ (by decide +kernel)) ggX10_share_X2_kindCost
theorem dX10_share_0 : decode cX10_share 0 = .ok (.iload_n 1, 1) := by decide +kernel
theorem dX10_share_1 : decode cX10_share 1 = .ok (.invokestatic 29, 3) := by decide +kernel
theorem dX10_share_4 : decode cX10_share 4 = .ok (.aload_n 0, 1) := by decide +kernel
theorem dX10_share_5 : decode cX10_share 5 = .ok (.aload_n 0, 1) := by decide +kernel
theorem dX10_share_6 : decode cX10_share 6 = .ok (.getfield 25, 3) := by decide +kernel
theorem dX10_share_9 : decode cX10_share 9 = .ok (.invokevirtual 142, 3) := by decide +kernel
theorem dX10_share_12 : decode cX10_share 12 = .ok (.aload_n 0, 1) := by decide +kernel
theorem dX10_share_13 : decode cX10_share 13 = .ok (.getfield 21, 3) := by decide +kernel
theorem dX10_share_16 : decode cX10_share 16 = .ok (.invokevirtual 281, 3) := by decide +kernel
theorem dX10_share_19 : decode cX10_share 19 = .ok (.lstore_n 2, 1) := by decide +kernel
theorem dX10_share_20 : decode cX10_share 20 = .ok (.lload_n 2, 1) := by decide +kernel
theorem dX10_share_21 : decode cX10_share 21 = .ok (.invokestatic 299, 3) := by decide +kernel
theorem dX10_share_24 : decode cX10_share 24 = .ok (.aload_n 0, 1) := by decide +kernel
theorem dX10_share_25 : decode cX10_share 25 = .ok (.getfield 21, 3) := by decide +kernel
theorem dX10_share_28 : decode cX10_share 28 = .ok (.iload_n 1, 1) := by decide +kernel
theorem dX10_share_29 : decode cX10_share 29 = .ok (.invokevirtual 278, 3) := by decide +kernel
theorem dX10_share_32 : decode cX10_share 32 = .ok (.l2f, 1) := by decide +kernel
theorem dX10_share_33 : decode cX10_share 33 = .ok (.lload_n 2, 1) := by decide +kernel
theorem dX10_share_34 : decode cX10_share 34 = .ok (.l2f, 1) := by decide +kernel
theorem dX10_share_35 : decode cX10_share 35 = .ok (.fdiv, 1) := by decide +kernel
theorem dX10_share_36 : decode cX10_share 36 = .ok (.freturn, 1) := by decide +kernel
set_option maxRecDepth 20000 in
theorem ggX10_factor_X10_workOut : GoodIn wsX10_factor wsX10_workOut := goodIn_ca (goodIn_ca (goodIn_r _ [7, 2, 8, 9, 10, 11, 12, 13, 14, 15, 16, 17, 18, 19, 20, 21, 22, 23, 24, 25, 26, 27, 28, 29, 30, 31, 32, 33, 34, 35, 36, 37, 38, 39, 40, 41, 42, 43, 44, 45, 46, 47, 48, 6, 49, 50, 51, 52, 53, 54, 55, 56, 57, 58, 59, 60, 61, 62, 63, 64, 65, 66, 67, 68, 69, 70, 71, 72, 73, 74, 75, 76, 77, 78, 79, 80, 81, 82, 83, 84, 85, 86, 87, 88, 89, 90, 91, 92, 93, 94, 95, 96, 97, 98, 99, 100, 101, 102, 103, 104, 105, 106, 107, 108, 109, 110, 111, 112, 113, 114, 115, 116, 117, 118, 119, 120, 121, 122, 123, 124, 125, 126, 127, 128, 129, 130, 131, 132, 133, 134, 135, 136, 137, 138, 139, 140, 141, 142, 143, 144, 145, 146, 147, 148, 149, 150, 151, 152, 153, 154, 155, 156, 157, 158, 159, 160, 179, 180, 181, 182, 183, 184, 185, 186, 187, 188, 189, 190, 191, 192, 193, 194, 195, 196, 197, 198, 199, 200, 201, 202, 203, 204, 205, 206, 207, 208, 209, 210, 211, 212, 213, 214, 215, 216, 217, 218] (by decide +kernel) (by decide +kernel)) (goodIn_sub (fun _ h => List.mem_cons_of_mem _ (List.mem_append_left _ (List.mem_append_left _ (List.mem_append_right _ h)))) (by decide +kernel))) (goodIn_sub (fun _ h => List.mem_cons_of_mem _ (List.mem_append_left _ (List.mem_append_right _ h))) (by decide +kernel))
set_option maxRecDepth 20000 in
theorem gX10_factor_X10_workOut : GoodIn wsX10_factor (wsV RX10 142 RX10 yX10_workOut wsX10_workOut) := goodIn_app (goodIn_of _ (by decide +kernel)) ggX10_factor_X10_workOut
set_option maxRecDepth 20000 in
theorem ggX10_factor_X2_netCost : GoodIn wsX10_factor wsX2_netCost := goodIn_ca (goodIn_r _ [164, 128, 165, 166, 167, 11, 168, 13, 16, 147, 149, 18, 19, 20, 21, 22, 23, 31, 32, 33, 34, 35, 36, 37, 38, 39, 40, 41, 42, 43, 44, 45, 46, 47, 182, 183, 184, 185, 186, 187, 188, 189, 190, 191, 192, 193, 194, 195, 196, 197, 215, 216, 217, 218, 198, 199, 200] (by decide +kernel) (by decide +kernel)) (goodIn_sub (fun _ h => List.mem_cons_of_mem _ (List.mem_append_left _ (List.mem_append_left _ (List.mem_append_right _ h)))) (by decide +kernel))
set_option maxRecDepth 20000 in
theorem gX10_factor_X2_netCost : GoodIn wsX10_factor (wsV RX10 281 RX2 yX2_netCost wsX2_netCost) := goodIn_app (goodIn_of _ (by decide +kernel)) ggX10_factor_X2_netCost
set_option maxRecDepth 20000 in
theorem ggX10_factor_X10_checkDivisor : GoodIn wsX10_factor wsX10_checkDivisor := goodIn_ca (goodIn_r _ [171, 172, 173] (by decide +kernel) (by decide +kernel)) (goodIn_sub (fun _ h => List.mem_cons_of_mem _ (List.mem_append_right _ h)) (by decide +kernel))
set_option maxRecDepth 20000 in
theorem gX10_factor_X10_checkDivisor : GoodIn wsX10_factor (va_wsS RX10 299 yX10_checkDivisor wsX10_checkDivisor) := goodIn_app (goodIn_of _ (by decide +kernel)) ggX10_factor_X10_checkDivisor
set_option maxRecDepth 20000 in
theorem ggX10_factor_X2_totalCost : GoodIn wsX10_factor wsX2_totalCost := goodIn_ca (goodIn_ca (goodIn_r _ [177, 13, 133, 135, 178, 162, 163, 11, 164, 128, 165, 166, 167, 168, 16, 147, 149, 18, 19, 20, 21, 22, 23, 31, 32, 33, 34, 35, 36, 37, 38, 39, 40, 41, 42, 43, 44, 45, 46, 47, 150, 151, 152, 153, 154, 155, 156, 157, 158, 159, 160, 138, 182, 183, 184, 185, 186, 187, 188, 189, 190, 191, 192, 193, 194, 195, 196, 197, 215, 216, 217, 218, 198, 199, 200] (by decide +kernel) (by decide +kernel)) (goodIn_sub (fun _ h => List.mem_cons_of_mem _ (List.mem_append_left _ (List.mem_append_left _ (List.mem_append_right _ h)))) (by decide +kernel))) (goodIn_sub (fun _ h => List.mem_cons_of_mem _ (List.mem_append_left _ (List.mem_append_right _ h))) (by decide +kernel))
set_option maxRecDepth 20000 in
theorem gX10_factor_X2_totalCost : GoodIn wsX10_factor (wsV RX10 237 RX2 yX2_totalCost wsX2_totalCost) := goodIn_app (goodIn_of _ (by decide +kernel)) ggX10_factor_X2_totalCost
theorem dX10_factor_0 : decode cX10_factor 0 = .ok (.aload_n 0, 1) := by decide +kernel
theorem dX10_factor_1 : decode cX10_factor 1 = .ok (.aload_n 0, 1) := by decide +kernel
theorem dX10_factor_2 : decode cX10_factor 2 = .ok (.getfield 25, 3) := by decide +kernel
theorem dX10_factor_5 : decode cX10_factor 5 = .ok (.invokevirtual 142, 3) := by decide +kernel
theorem dX10_factor_8 : decode cX10_factor 8 = .ok (.aload_n 0, 1) := by decide +kernel
theorem dX10_factor_9 : decode cX10_factor 9 = .ok (.getfield 21, 3) := by decide +kernel
theorem dX10_factor_12 : decode cX10_factor 12 = .ok (.invokevirtual 281, 3) := by decide +kernel
theorem dX10_factor_15 : decode cX10_factor 15 = .ok (.lstore_n 1, 1) := by decide +kernel
theorem dX10_factor_16 : decode cX10_factor 16 = .ok (.lload_n 1, 1) := by decide +kernel
theorem dX10_factor_17 : decode cX10_factor 17 = .ok (.invokestatic 299, 3) := by decide +kernel
theorem dX10_factor_20 : decode cX10_factor 20 = .ok (.aload_n 0, 1) := by decide +kernel
theorem dX10_factor_21 : decode cX10_factor 21 = .ok (.getfield 21, 3) := by decide +kernel
theorem dX10_factor_24 : decode cX10_factor 24 = .ok (.invokevirtual 237, 3) := by decide +kernel
theorem dX10_factor_27 : decode cX10_factor 27 = .ok (.l2d, 1) := by decide +kernel
theorem dX10_factor_28 : decode cX10_factor 28 = .ok (.lload_n 1, 1) := by decide +kernel
theorem dX10_factor_29 : decode cX10_factor 29 = .ok (.l2d, 1) := by decide +kernel
theorem dX10_factor_30 : decode cX10_factor 30 = .ok (.ddiv, 1) := by decide +kernel
theorem dX10_factor_31 : decode cX10_factor 31 = .ok (.dreturn, 1) := by decide +kernel
set_option maxRecDepth 20000 in
theorem ggX10_isSound_X10_workOut : GoodIn wsX10_isSound wsX10_workOut := goodIn_ca (goodIn_ca (goodIn_r _ [7, 2, 8, 9, 10, 11, 12, 13, 14, 15, 16, 17, 18, 19, 20, 21, 22, 23, 24, 25, 26, 27, 28, 29, 30, 31, 32, 33, 34, 35, 36, 37, 38, 39, 40, 41, 42, 43, 44, 45, 46, 47, 48, 6, 49, 50, 51, 52, 53, 54, 55, 56, 57, 58, 59, 60, 61, 62, 63, 64, 65, 66, 67, 68, 69, 70, 71, 72, 73, 74, 75, 76, 77, 78, 79, 80, 81, 82, 83, 84, 85, 86, 87, 88, 89, 90, 91, 92, 93, 94, 95, 96, 97, 98, 99, 100, 101, 102, 103, 104, 105, 106, 107, 108, 109, 110, 111, 112, 113, 114, 115, 116, 117, 118, 119, 120, 121, 122, 123, 124, 125, 126, 127, 128, 129, 130, 131, 132, 133, 134, 135, 136, 137, 138, 139, 140, 141, 142, 143, 144, 145, 146, 147, 148, 149, 150, 151, 152, 153, 154, 155, 156, 157, 158, 159, 160, 210, 211, 212, 213, 214, 215, 216, 217, 218, 219, 220, 221, 222, 223, 224, 225, 226, 227, 228, 229, 230, 231, 232, 233, 234, 235, 236, 237, 238, 239, 240, 241, 242, 243, 244, 245, 246, 247, 248, 249] (by decide +kernel) (by decide +kernel)) (goodIn_sub (fun _ h => List.mem_cons_of_mem _ (List.mem_append_left _ (List.mem_append_right _ h))) (by decide +kernel))) (goodIn_sub (fun _ h => List.mem_cons_of_mem _ (List.mem_append_right _ h)) (by decide +kernel))
set_option maxRecDepth 20000 in
theorem gX10_isSound_X10_workOut : GoodIn wsX10_isSound (wsV RX10 142 RX10 yX10_workOut wsX10_workOut) := goodIn_app (goodIn_of _ (by decide +kernel)) ggX10_isSound_X10_workOut
set_option maxRecDepth 20000 in
theorem ggX10_isSound_X2_netCost : GoodIn wsX10_isSound wsX2_netCost := goodIn_ca (goodIn_r _ [164, 128, 165, 166, 167, 11, 168, 13, 16, 147, 149, 18, 19, 20, 21, 22, 23, 31, 32, 33, 34, 35, 36, 37, 38, 39, 40, 41, 42, 43, 44, 45, 46, 47, 213, 214, 215, 216, 217, 218, 219, 220, 221, 222, 223, 224, 225, 226, 227, 228, 246, 247, 248, 249, 229, 230, 231] (by decide +kernel) (by decide +kernel)) (goodIn_sub (fun _ h => List.mem_cons_of_mem _ (List.mem_append_left _ (List.mem_append_right _ h))) (by decide +kernel))
set_option maxRecDepth 20000 in
theorem gX10_isSound_X2_netCost : GoodIn wsX10_isSound (wsV RX10 281 RX2 yX2_netCost wsX2_netCost) := goodIn_app (goodIn_of _ (by decide +kernel)) ggX10_isSound_X2_netCost
set_option maxRecDepth 20000 in
theorem ggX10_isSound_X2_costOfAllLines : GoodIn wsX10_isSound wsX2_costOfAllLines := goodIn_ca (goodIn_r _ [172, 13, 116, 18, 19, 20, 21, 22, 23, 173, 174, 175, 11, 176, 117, 119, 107, 15, 118, 31, 32, 33, 34, 35, 36, 37, 38, 39, 40, 41, 42, 43, 44, 45, 46, 47, 165, 166, 167, 168, 16, 147, 149, 213, 214, 215, 216, 217, 218, 219, 220, 221, 222, 223, 224, 225, 226, 227, 228, 229, 230, 231, 242, 243, 246, 247, 248, 249] (by decide +kernel) (by decide +kernel)) (goodIn_sub (fun _ h => List.mem_cons_of_mem _ (List.mem_append_left _ (List.mem_append_right _ h))) (by decide +kernel))
set_option maxRecDepth 20000 in
theorem gX10_isSound_X2_costOfAllLines : GoodIn wsX10_isSound (wsV RX10 303 RX2 yX2_costOfAllLines wsX2_costOfAllLines) := goodIn_app (goodIn_of _ (by decide +kernel)) ggX10_isSound_X2_costOfAllLines
set_option maxRecDepth 20000 in
theorem ggX10_isSound_X2_costOfAllKinds : GoodIn wsX10_isSound wsX2_costOfAllKinds := goodIn_ca (goodIn_r _ [180, 143, 144, 145, 11, 146, 13, 16, 147, 148, 128, 149, 18, 19, 20, 21, 22, 23, 31, 32, 33, 34, 35, 36, 37, 38, 39, 40, 41, 42, 43, 44, 45, 46, 47, 213, 214, 215, 216, 217, 218, 219, 220, 221, 222, 223, 224, 225, 226, 227, 228, 246, 247, 248, 249, 229, 230, 231] (by decide +kernel) (by decide +kernel)) (goodIn_sub (fun _ h => List.mem_cons_of_mem _ (List.mem_append_left _ (List.mem_append_right _ h))) (by decide +kernel))
set_option maxRecDepth 20000 in
theorem gX10_isSound_X2_costOfAllKinds : GoodIn wsX10_isSound (wsV RX10 306 RX2 yX2_costOfAllKinds wsX2_costOfAllKinds) := goodIn_app (goodIn_of _ (by decide +kernel)) ggX10_isSound_X2_costOfAllKinds
set_option maxRecDepth 20000 in
theorem ggX10_isSound_X2_costOfAllTrades : GoodIn wsX10_isSound wsX2_costOfAllTrades := goodIn_ca (goodIn_r _ [184, 185, 186, 187, 11, 188, 13, 14, 68, 189, 115, 85, 18, 19, 20, 21, 22, 23, 31, 32, 33, 34, 35, 36, 37, 38, 39, 40, 41, 42, 43, 44, 45, 46, 47, 165, 166, 167, 168, 16, 147, 149, 213, 214, 215, 216, 217, 218, 219, 220, 221, 222, 223, 224, 225, 226, 227, 228, 234, 235, 229, 230, 231, 246, 247, 248, 249] (by decide +kernel) (by decide +kernel)) (goodIn_sub (fun _ h => List.mem_cons_of_mem _ (List.mem_append_left _ (List.mem_append_right _ h))) (by decide +kernel))
set_option maxRecDepth 20000 in
theorem gX10_isSound_X2_costOfAllTrades : GoodIn wsX10_isSound (wsV RX10 309 RX2 yX2_costOfAllTrades wsX2_costOfAllTrades) := goodIn_app (goodIn_of _ (by decide +kernel)) ggX10_isSound_X2_costOfAllTrades
set_option maxRecDepth 20000 in
theorem ggX10_isSound_X2_amountsAgree : GoodIn wsX10_isSound wsX2_amountsAgree := goodIn_ca (goodIn_r _ [193, 13, 16, 128, 18, 19, 20, 21, 22, 23, 194, 195, 196, 11, 197, 116, 117, 119, 15, 118, 31, 32, 33, 34, 35, 36, 37, 38, 39, 40, 41, 42, 43, 44, 45, 46, 47, 198, 199, 200, 201, 14, 68, 69, 70, 202, 203, 204, 205, 71, 72, 93, 17, 206, 207, 208, 209, 94, 95, 96, 97, 98, 213, 214, 215, 216, 217, 218, 219, 220, 221, 222, 223, 224, 225, 226, 227, 228, 229, 230, 231, 242, 243, 236, 237, 238, 239, 240, 241, 234, 235] (by decide +kernel) (by decide +kernel)) (goodIn_sub (fun _ h => List.mem_cons_of_mem _ (List.mem_append_left _ (List.mem_append_right _ h))) (by decide +kernel))
set_option maxRecDepth 20000 in
theorem gX10_isSound_X2_amountsAgree : GoodIn wsX10_isSound (wsV RX10 312 RX2 yX2_amountsAgree wsX2_amountsAgree) := goodIn_app (goodIn_of _ (by decide +kernel)) ggX10_isSound_X2_amountsAgree
theorem dX10_isSound_0 : decode cX10_isSound 0 = .ok (.aload_n 0, 1) := by decide +kernel
theorem dX10_isSound_1 : decode cX10_isSound 1 = .ok (.aload_n 0, 1) := by decide +kernel
theorem dX10_isSound_2 : decode cX10_isSound 2 = .ok (.getfield 25, 3) := by decide +kernel
theorem dX10_isSound_5 : decode cX10_isSound 5 = .ok (.invokevirtual 142, 3) := by decide +kernel
theorem dX10_isSound_8 : decode cX10_isSound 8 = .ok (.aload_n 0, 1) := by decide +kernel
theorem dX10_isSound_9 : decode cX10_isSound 9 = .ok (.getfield 21, 3) := by decide +kernel
theorem dX10_isSound_12 : decode cX10_isSound 12 = .ok (.invokevirtual 281, 3) := by decide +kernel
theorem dX10_isSound_15 : decode cX10_isSound 15 = .ok (.lstore_n 1, 1) := by decide +kernel
theorem dX10_isSound_16 : decode cX10_isSound 16 = .ok (.aload_n 0, 1) := by decide +kernel
theorem dX10_isSound_17 : decode cX10_isSound 17 = .ok (.getfield 21, 3) := by decide +kernel
theorem dX10_isSound_20 : decode cX10_isSound 20 = .ok (.invokevirtual 303, 3) := by decide +kernel
theorem dX10_isSound_23 : decode cX10_isSound 23 = .ok (.lload_n 1, 1) := by decide +kernel
theorem dX10_isSound_24 : decode cX10_isSound 24 = .ok (.lcmp, 1) := by decide +kernel
theorem dX10_isSound_25 : decode cX10_isSound 25 = .ok (.ifCond .ne 41, 3) := by decide +kernel
theorem dX10_isSound_28 : decode cX10_isSound 28 = .ok (.aload_n 0, 1) := by decide +kernel
theorem dX10_isSound_29 : decode cX10_isSound 29 = .ok (.getfield 21, 3) := by decide +kernel
theorem dX10_isSound_32 : decode cX10_isSound 32 = .ok (.invokevirtual 306, 3) := by decide +kernel
theorem dX10_isSound_35 : decode cX10_isSound 35 = .ok (.lload_n 1, 1) := by decide +kernel
theorem dX10_isSound_36 : decode cX10_isSound 36 = .ok (.lcmp, 1) := by decide +kernel
theorem dX10_isSound_37 : decode cX10_isSound 37 = .ok (.ifCond .ne 29, 3) := by decide +kernel
theorem dX10_isSound_40 : decode cX10_isSound 40 = .ok (.aload_n 0, 1) := by decide +kernel
theorem dX10_isSound_41 : decode cX10_isSound 41 = .ok (.getfield 21, 3) := by decide +kernel
theorem dX10_isSound_44 : decode cX10_isSound 44 = .ok (.invokevirtual 309, 3) := by decide +kernel
theorem dX10_isSound_47 : decode cX10_isSound 47 = .ok (.lload_n 1, 1) := by decide +kernel
theorem dX10_isSound_48 : decode cX10_isSound 48 = .ok (.lcmp, 1) := by decide +kernel
theorem dX10_isSound_49 : decode cX10_isSound 49 = .ok (.ifCond .ne 17, 3) := by decide +kernel
theorem dX10_isSound_52 : decode cX10_isSound 52 = .ok (.aload_n 0, 1) := by decide +kernel
theorem dX10_isSound_53 : decode cX10_isSound 53 = .ok (.getfield 21, 3) := by decide +kernel
theorem dX10_isSound_56 : decode cX10_isSound 56 = .ok (.invokevirtual 312, 3) := by decide +kernel
theorem dX10_isSound_59 : decode cX10_isSound 59 = .ok (.ifCond .eq 7, 3) := by decide +kernel
theorem dX10_isSound_62 : decode cX10_isSound 62 = .ok (.iconst 1, 1) := by decide +kernel
theorem dX10_isSound_63 : decode cX10_isSound 63 = .ok (.goto 4, 3) := by decide +kernel
theorem dX10_isSound_66 : decode cX10_isSound 66 = .ok (.iconst 0, 1) := by decide +kernel
theorem dX10_isSound_67 : decode cX10_isSound 67 = .ok (.ireturn, 1) := by decide +kernel
set_option maxRecDepth 20000 in
theorem ggX10_workOut_X2_choose : GoodIn wsX10_workOut wsX2_choose := goodIn_ca (goodIn_r _ [6, 7, 8, 9, 10, 11, 12, 13, 14, 15, 16, 17, 18, 19, 20, 5, 21, 22, 23, 24, 25, 26, 27, 28, 29, 30, 31, 32, 33, 34, 35, 36, 37, 38, 39, 40, 41, 42, 43, 44, 45, 46, 47, 48, 49, 50, 51, 52, 53, 54, 55, 56, 57, 58, 59, 60, 61, 62, 63, 64, 65, 66, 67, 68, 69, 70, 71, 159, 160, 161, 162, 163, 164, 165, 166, 167, 168, 169, 170, 171, 172, 173, 174, 175, 176, 177, 178, 179, 180, 181, 182, 183, 184] (by decide +kernel) (by decide +kernel)) (goodIn_sub (fun _ h => List.mem_cons_of_mem _ (List.mem_append_left _ (List.mem_append_right _ h))) (by decide +kernel))
set_option maxRecDepth 20000 in
theorem gX10_workOut_X2_choose : GoodIn wsX10_workOut (wsV RX10 121 RX2 yX2_choose wsX2_choose) := goodIn_app (goodIn_of _ (by decide +kernel)) ggX10_workOut_X2_choose
set_option maxRecDepth 20000 in
theorem ggX10_workOut_X2_workOutCosts : GoodIn wsX10_workOut wsX2_workOutCosts := goodIn_ca (goodIn_ca (goodIn_r _ [75, 76, 77, 78, 5, 79, 7, 8, 80, 63, 64, 65, 12, 13, 14, 15, 16, 17, 81, 82, 57, 83, 25, 26, 27, 28, 29, 30, 31, 32, 33, 34, 35, 36, 37, 38, 39, 40, 41, 84, 85, 86, 87, 66, 11, 67, 88, 89, 90, 91, 92, 93, 94, 95, 96, 97, 54, 98, 99, 100, 101, 102, 9, 103, 104, 105, 106, 107, 108, 109, 110, 111, 112, 113, 114, 115, 116, 117, 118, 119, 120, 121, 122, 123, 124, 125, 126, 127, 128, 129, 130, 131, 132, 133, 134, 135, 136, 137, 42, 43, 44, 138, 139, 140, 141, 10, 142, 143, 144, 145, 146, 147, 148, 149, 150, 151, 152, 153, 154, 155, 159, 160, 161, 162, 163, 164, 165, 166, 167, 168, 169, 170, 171, 172, 173, 174, 180, 181, 175, 176, 177, 182, 183, 184, 185, 186, 187, 188, 189, 190, 191, 192, 193, 194, 195] (by decide +kernel) (by decide +kernel)) (goodIn_sub (fun _ h => List.mem_cons_of_mem _ (List.mem_append_left _ (List.mem_append_right _ h))) (by decide +kernel))) (goodIn_sub (fun _ h => List.mem_cons_of_mem _ (List.mem_append_right _ h)) (by decide +kernel))
set_option maxRecDepth 20000 in
theorem gX10_workOut_X2_workOutCosts : GoodIn wsX10_workOut (wsV RX10 241 RX2 yX2_workOutCosts wsX2_workOutCosts) := goodIn_app (goodIn_of _ (by decide +kernel)) ggX10_workOut_X2_workOutCosts
theorem dX10_workOut_0 : decode cX10_workOut 0 = .ok (.aload_n 0, 1) := by decide +kernel
theorem dX10_workOut_1 : decode cX10_workOut 1 = .ok (.getfield 21, 3) := by decide +kernel
theorem dX10_workOut_4 : decode cX10_workOut 4 = .ok (.iload_n 1, 1) := by decide +kernel
theorem dX10_workOut_5 : decode cX10_workOut 5 = .ok (.invokevirtual 121, 3) := by decide +kernel
theorem dX10_workOut_8 : decode cX10_workOut 8 = .ok (.pop, 1) := by decide +kernel
theorem dX10_workOut_9 : decode cX10_workOut 9 = .ok (.aload_n 0, 1) := by decide +kernel
theorem dX10_workOut_10 : decode cX10_workOut 10 = .ok (.getfield 21, 3) := by decide +kernel
theorem dX10_workOut_13 : decode cX10_workOut 13 = .ok (.invokevirtual 241, 3) := by decide +kernel
theorem dX10_workOut_16 : decode cX10_workOut 16 = .ok (.return_, 1) := by decide +kernel
set_option maxRecDepth 20000 in
theorem ggX10_addComponent_Jx4a65c_get_915e3 : GoodIn wsX10_addComponent wsJx4a65c_get_915e3 := goodIn_r _ [9, 10, 11, 12, 13, 14, 15, 16, 17, 18, 19, 20, 21, 8, 22, 23, 99, 100, 101] (by decide +kernel) (by decide +kernel)
set_option maxRecDepth 20000 in
theorem gX10_addComponent_Jx4a65c_get_915e3 : GoodIn wsX10_addComponent (wsV RX10 63 RJx4a65c yJx4a65c_get_915e3 wsJx4a65c_get_915e3) := goodIn_app (goodIn_of _ (by decide +kernel)) ggX10_addComponent_Jx4a65c_get_915e3
set_option maxRecDepth 20000 in
theorem ggX10_addComponent_Jx4a65c_size_8abf5 : GoodIn wsX10_addComponent wsJx4a65c_size_8abf5 := goodIn_r _ [27, 10, 99, 100, 101] (by decide +kernel) (by decide +kernel)
set_option maxRecDepth 20000 in
theorem gX10_addComponent_Jx4a65c_size_8abf5 : GoodIn wsX10_addComponent (wsV RX10 41 RJx4a65c yJx4a65c_size_8abf5 wsJx4a65c_size_8abf5) := goodIn_app (goodIn_of _ (by decide +kernel)) ggX10_addComponent_Jx4a65c_size_8abf5
set_option maxRecDepth 20000 in
theorem ggX10_addComponent_X10_checkRoom : GoodIn wsX10_addComponent wsX10_checkRoom := goodIn_ca (goodIn_r _ [31, 32, 33] (by decide +kernel) (by decide +kernel)) (goodIn_sub (fun _ h => List.mem_cons_of_mem _ (List.mem_append_right _ h)) (by decide +kernel))
set_option maxRecDepth 20000 in
theorem gX10_addComponent_X10_checkRoom : GoodIn wsX10_addComponent (va_wsS RX10 47 yX10_checkRoom wsX10_checkRoom) := goodIn_app (goodIn_of _ (by decide +kernel)) ggX10_addComponent_X10_checkRoom
set_option maxRecDepth 20000 in
theorem ggX10_addComponent_Jx4a65c_add_9ea2d : GoodIn wsX10_addComponent wsJx4a65c_add_9ea2d := goodIn_r _ [37, 38, 39, 23, 10, 40, 41, 42, 8, 43, 44, 45, 46, 47, 48, 49, 50, 51, 52, 53, 54, 55, 56, 57, 58, 59, 60, 61, 62, 63, 64, 65, 66, 67, 68, 69, 70, 71, 72, 73, 74, 75, 76, 77, 78, 79, 80, 81, 82, 83, 84, 85, 86, 99, 100, 101] (by decide +kernel) (by decide +kernel)
set_option maxRecDepth 20000 in
theorem gX10_addComponent_Jx4a65c_add_9ea2d : GoodIn wsX10_addComponent (wsV RX10 56 RJx4a65c yJx4a65c_add_9ea2d wsJx4a65c_add_9ea2d) := goodIn_app (goodIn_of _ (by decide +kernel)) ggX10_addComponent_Jx4a65c_add_9ea2d
theorem dX10_addComponent_0 : decode cX10_addComponent 0 = .ok (.aload_n 0, 1) := by decide +kernel
theorem dX10_addComponent_1 : decode cX10_addComponent 1 = .ok (.getfield 10, 3) := by decide +kernel
theorem dX10_addComponent_4 : decode cX10_addComponent 4 = .ok (.getfield 103, 3) := by decide +kernel
theorem dX10_addComponent_7 : decode cX10_addComponent 7 = .ok (.iload_n 1, 1) := by decide +kernel
theorem dX10_addComponent_8 : decode cX10_addComponent 8 = .ok (.invokevirtual 63, 3) := by decide +kernel
theorem dX10_addComponent_11 : decode cX10_addComponent 11 = .ok (.checkcast 106, 3) := by decide +kernel
theorem dX10_addComponent_14 : decode cX10_addComponent 14 = .ok (.getfield 133, 3) := by decide +kernel
theorem dX10_addComponent_17 : decode cX10_addComponent 17 = .ok (.astore_n 3, 1) := by decide +kernel
theorem dX10_addComponent_18 : decode cX10_addComponent 18 = .ok (.aload_n 3, 1) := by decide +kernel
theorem dX10_addComponent_19 : decode cX10_addComponent 19 = .ok (.invokevirtual 41, 3) := by decide +kernel
theorem dX10_addComponent_22 : decode cX10_addComponent 22 = .ok (.iconst 4, 1) := by decide +kernel
theorem dX10_addComponent_23 : decode cX10_addComponent 23 = .ok (.invokestatic 47, 3) := by decide +kernel
theorem dX10_addComponent_26 : decode cX10_addComponent 26 = .ok (.aload_n 3, 1) := by decide +kernel
theorem dX10_addComponent_27 : decode cX10_addComponent 27 = .ok (.aload_n 2, 1) := by decide +kernel
theorem dX10_addComponent_28 : decode cX10_addComponent 28 = .ok (.invokevirtual 56, 3) := by decide +kernel
theorem dX10_addComponent_31 : decode cX10_addComponent 31 = .ok (.pop, 1) := by decide +kernel
theorem dX10_addComponent_32 : decode cX10_addComponent 32 = .ok (.aload_n 3, 1) := by decide +kernel
theorem dX10_addComponent_33 : decode cX10_addComponent 33 = .ok (.invokevirtual 41, 3) := by decide +kernel
theorem dX10_addComponent_36 : decode cX10_addComponent 36 = .ok (.ireturn, 1) := by decide +kernel
set_option maxRecDepth 20000 in
theorem ggX10_changeQuantity_Jx4a65c_get_915e3 : GoodIn wsX10_changeQuantity wsJx4a65c_get_915e3 := goodIn_r _ [11, 12, 13, 14, 15, 16, 17, 18, 19, 20, 21, 22, 23, 10, 24, 25, 38, 39, 40] (by decide +kernel) (by decide +kernel)
set_option maxRecDepth 20000 in
theorem gX10_changeQuantity_Jx4a65c_get_915e3 : GoodIn wsX10_changeQuantity (wsV RX10 63 RJx4a65c yJx4a65c_get_915e3 wsJx4a65c_get_915e3) := goodIn_app (goodIn_of _ (by decide +kernel)) ggX10_changeQuantity_Jx4a65c_get_915e3
theorem dX10_changeQuantity_0 : decode cX10_changeQuantity 0 = .ok (.aload_n 0, 1) := by decide +kernel
theorem dX10_changeQuantity_1 : decode cX10_changeQuantity 1 = .ok (.getfield 10, 3) := by decide +kernel
theorem dX10_changeQuantity_4 : decode cX10_changeQuantity 4 = .ok (.getfield 153, 3) := by decide +kernel
theorem dX10_changeQuantity_7 : decode cX10_changeQuantity 7 = .ok (.iload_n 1, 1) := by decide +kernel
theorem dX10_changeQuantity_8 : decode cX10_changeQuantity 8 = .ok (.invokevirtual 63, 3) := by decide +kernel
theorem dX10_changeQuantity_11 : decode cX10_changeQuantity 11 = .ok (.checkcast 156, 3) := by decide +kernel
theorem dX10_changeQuantity_14 : decode cX10_changeQuantity 14 = .ok (.astore_n 3, 1) := by decide +kernel
theorem dX10_changeQuantity_15 : decode cX10_changeQuantity 15 = .ok (.aload_n 3, 1) := by decide +kernel
theorem dX10_changeQuantity_16 : decode cX10_changeQuantity 16 = .ok (.getfield 196, 3) := by decide +kernel
theorem dX10_changeQuantity_19 : decode cX10_changeQuantity 19 = .ok (.iload_n 2, 1) := by decide +kernel
theorem dX10_changeQuantity_20 : decode cX10_changeQuantity 20 = .ok (.iadd, 1) := by decide +kernel
theorem dX10_changeQuantity_21 : decode cX10_changeQuantity 21 = .ok (.istore 4, 2) := by decide +kernel
theorem dX10_changeQuantity_23 : decode cX10_changeQuantity 23 = .ok (.iload 4, 2) := by decide +kernel
theorem dX10_changeQuantity_25 : decode cX10_changeQuantity 25 = .ok (.ifCond .lt 11, 3) := by decide +kernel
theorem dX10_changeQuantity_28 : decode cX10_changeQuantity 28 = .ok (.iload 4, 2) := by decide +kernel
theorem dX10_changeQuantity_30 : decode cX10_changeQuantity 30 = .ok (.sipush 10000, 3) := by decide +kernel
theorem dX10_changeQuantity_33 : decode cX10_changeQuantity 33 = .ok (.if_icmp .le 14, 3) := by decide +kernel
theorem dX10_changeQuantity_36 : decode cX10_changeQuantity 36 = .ok (.new 315, 3) := by decide +kernel
theorem dX10_changeQuantity_39 : decode cX10_changeQuantity 39 = .ok (.dup, 1) := by decide +kernel
theorem dX10_changeQuantity_40 : decode cX10_changeQuantity 40 = .ok (.ldc_w 317, 3) := by decide +kernel
theorem dX10_changeQuantity_43 : decode cX10_changeQuantity 43 = .ok (.invokespecial 319, 3) := by decide +kernel
theorem dX10_changeQuantity_46 : decode cX10_changeQuantity 46 = .ok (.athrow, 1) := by decide +kernel
theorem dX10_changeQuantity_47 : decode cX10_changeQuantity 47 = .ok (.aload_n 3, 1) := by decide +kernel
theorem dX10_changeQuantity_48 : decode cX10_changeQuantity 48 = .ok (.iload 4, 2) := by decide +kernel
theorem dX10_changeQuantity_50 : decode cX10_changeQuantity 50 = .ok (.putfield 196, 3) := by decide +kernel
theorem dX10_changeQuantity_53 : decode cX10_changeQuantity 53 = .ok (.iload 4, 2) := by decide +kernel
theorem dX10_changeQuantity_55 : decode cX10_changeQuantity 55 = .ok (.ireturn, 1) := by decide +kernel
theorem dX10_sizeOf_0 : decode cX10_sizeOf 0 = .ok (.iload_n 0, 1) := by decide +kernel
theorem dX10_sizeOf_1 : decode cX10_sizeOf 1 = .ok (.tableswitch 83 108 118 #[59, 83, 83, 83, 71, 83, 61, 83, 65, 83, 77], 59) := by decide +kernel
theorem dX10_sizeOf_60 : decode cX10_sizeOf 60 = .ok (.iload_n 1, 1) := by decide +kernel
theorem dX10_sizeOf_61 : decode cX10_sizeOf 61 = .ok (.ireturn, 1) := by decide +kernel
theorem dX10_sizeOf_62 : decode cX10_sizeOf 62 = .ok (.iload_n 1, 1) := by decide +kernel
theorem dX10_sizeOf_63 : decode cX10_sizeOf 63 = .ok (.iload_n 2, 1) := by decide +kernel
theorem dX10_sizeOf_64 : decode cX10_sizeOf 64 = .ok (.imul, 1) := by decide +kernel
theorem dX10_sizeOf_65 : decode cX10_sizeOf 65 = .ok (.ireturn, 1) := by decide +kernel
theorem dX10_sizeOf_66 : decode cX10_sizeOf 66 = .ok (.iload_n 1, 1) := by decide +kernel
theorem dX10_sizeOf_67 : decode cX10_sizeOf 67 = .ok (.iload_n 2, 1) := by decide +kernel
theorem dX10_sizeOf_68 : decode cX10_sizeOf 68 = .ok (.imul, 1) := by decide +kernel
theorem dX10_sizeOf_69 : decode cX10_sizeOf 69 = .ok (.iconst 2, 1) := by decide +kernel
theorem dX10_sizeOf_70 : decode cX10_sizeOf 70 = .ok (.idiv, 1) := by decide +kernel
theorem dX10_sizeOf_71 : decode cX10_sizeOf 71 = .ok (.ireturn, 1) := by decide +kernel
theorem dX10_sizeOf_72 : decode cX10_sizeOf 72 = .ok (.iconst 2, 1) := by decide +kernel
theorem dX10_sizeOf_73 : decode cX10_sizeOf 73 = .ok (.iload_n 1, 1) := by decide +kernel
theorem dX10_sizeOf_74 : decode cX10_sizeOf 74 = .ok (.iload_n 2, 1) := by decide +kernel
theorem dX10_sizeOf_75 : decode cX10_sizeOf 75 = .ok (.iadd, 1) := by decide +kernel
theorem dX10_sizeOf_76 : decode cX10_sizeOf 76 = .ok (.imul, 1) := by decide +kernel
theorem dX10_sizeOf_77 : decode cX10_sizeOf 77 = .ok (.ireturn, 1) := by decide +kernel
theorem dX10_sizeOf_78 : decode cX10_sizeOf 78 = .ok (.iload_n 1, 1) := by decide +kernel
theorem dX10_sizeOf_79 : decode cX10_sizeOf 79 = .ok (.iload_n 2, 1) := by decide +kernel
theorem dX10_sizeOf_80 : decode cX10_sizeOf 80 = .ok (.imul, 1) := by decide +kernel
theorem dX10_sizeOf_81 : decode cX10_sizeOf 81 = .ok (.iload_n 3, 1) := by decide +kernel
theorem dX10_sizeOf_82 : decode cX10_sizeOf 82 = .ok (.imul, 1) := by decide +kernel
theorem dX10_sizeOf_83 : decode cX10_sizeOf 83 = .ok (.ireturn, 1) := by decide +kernel
theorem dX10_sizeOf_84 : decode cX10_sizeOf 84 = .ok (.iconst 1, 1) := by decide +kernel
theorem dX10_sizeOf_85 : decode cX10_sizeOf 85 = .ok (.ireturn, 1) := by decide +kernel
theorem dX10_countReplaced_0 : decode cX10_countReplaced 0 = .ok (.iconst 0, 1) := by decide +kernel
theorem dX10_countReplaced_1 : decode cX10_countReplaced 1 = .ok (.istore_n 1, 1) := by decide +kernel
theorem dX10_countReplaced_2 : decode cX10_countReplaced 2 = .ok (.iconst 0, 1) := by decide +kernel
theorem dX10_countReplaced_3 : decode cX10_countReplaced 3 = .ok (.istore_n 2, 1) := by decide +kernel
theorem dX10_countReplaced_4 : decode cX10_countReplaced 4 = .ok (.iload_n 2, 1) := by decide +kernel
theorem dX10_countReplaced_5 : decode cX10_countReplaced 5 = .ok (.aload_n 0, 1) := by decide +kernel
theorem dX10_countReplaced_6 : decode cX10_countReplaced 6 = .ok (.arraylength, 1) := by decide +kernel
theorem dX10_countReplaced_7 : decode cX10_countReplaced 7 = .ok (.if_icmp .ge 19, 3) := by decide +kernel
theorem dX10_countReplaced_10 : decode cX10_countReplaced 10 = .ok (.aload_n 0, 1) := by decide +kernel
theorem dX10_countReplaced_11 : decode cX10_countReplaced 11 = .ok (.iload_n 2, 1) := by decide +kernel
theorem dX10_countReplaced_12 : decode cX10_countReplaced 12 = .ok (.iaload, 1) := by decide +kernel
theorem dX10_countReplaced_13 : decode cX10_countReplaced 13 = .ok (.iconst (-1), 1) := by decide +kernel
theorem dX10_countReplaced_14 : decode cX10_countReplaced 14 = .ok (.if_icmp .eq 6, 3) := by decide +kernel
theorem dX10_countReplaced_17 : decode cX10_countReplaced 17 = .ok (.iinc 1 1, 3) := by decide +kernel
theorem dX10_countReplaced_20 : decode cX10_countReplaced 20 = .ok (.iinc 2 1, 3) := by decide +kernel
theorem dX10_countReplaced_23 : decode cX10_countReplaced 23 = .ok (.goto (-19), 3) := by decide +kernel
theorem dX10_countReplaced_26 : decode cX10_countReplaced 26 = .ok (.iload_n 1, 1) := by decide +kernel
theorem dX10_countReplaced_27 : decode cX10_countReplaced 27 = .ok (.ireturn, 1) := by decide +kernel
theorem dX10_hasBit_0 : decode cX10_hasBit 0 = .ok (.iload_n 0, 1) := by decide +kernel
theorem dX10_hasBit_1 : decode cX10_hasBit 1 = .ok (.iload_n 1, 1) := by decide +kernel
theorem dX10_hasBit_2 : decode cX10_hasBit 2 = .ok (.ishr, 1) := by decide +kernel
theorem dX10_hasBit_3 : decode cX10_hasBit 3 = .ok (.iconst 1, 1) := by decide +kernel
theorem dX10_hasBit_4 : decode cX10_hasBit 4 = .ok (.iand, 1) := by decide +kernel
theorem dX10_hasBit_5 : decode cX10_hasBit 5 = .ok (.iconst 1, 1) := by decide +kernel
theorem dX10_hasBit_6 : decode cX10_hasBit 6 = .ok (.if_icmp .ne 7, 3) := by decide +kernel
theorem dX10_hasBit_9 : decode cX10_hasBit 9 = .ok (.iconst 1, 1) := by decide +kernel
theorem dX10_hasBit_10 : decode cX10_hasBit 10 = .ok (.goto 4, 3) := by decide +kernel
theorem dX10_hasBit_13 : decode cX10_hasBit 13 = .ok (.iconst 0, 1) := by decide +kernel
theorem dX10_hasBit_14 : decode cX10_hasBit 14 = .ok (.ireturn, 1) := by decide +kernel
theorem dX10_isNumberOf_0 : decode cX10_isNumberOf 0 = .ok (.iload_n 0, 1) := by decide +kernel
theorem dX10_isNumberOf_1 : decode cX10_isNumberOf 1 = .ok (.ifCond .lt 12, 3) := by decide +kernel
theorem dX10_isNumberOf_4 : decode cX10_isNumberOf 4 = .ok (.iload_n 0, 1) := by decide +kernel
theorem dX10_isNumberOf_5 : decode cX10_isNumberOf 5 = .ok (.iload_n 1, 1) := by decide +kernel
theorem dX10_isNumberOf_6 : decode cX10_isNumberOf 6 = .ok (.if_icmp .ge 7, 3) := by decide +kernel
theorem dX10_isNumberOf_9 : decode cX10_isNumberOf 9 = .ok (.iconst 1, 1) := by decide +kernel
theorem dX10_isNumberOf_10 : decode cX10_isNumberOf 10 = .ok (.goto 4, 3) := by decide +kernel
theorem dX10_isNumberOf_13 : decode cX10_isNumberOf 13 = .ok (.iconst 0, 1) := by decide +kernel
theorem dX10_isNumberOf_14 : decode cX10_isNumberOf 14 = .ok (.ireturn, 1) := by decide +kernel
set_option maxRecDepth 20000 in
theorem ggX10_checkResource_Jx4a65c_size_8abf5 : GoodIn wsX10_checkResource wsJx4a65c_size_8abf5 := goodIn_r _ [9, 10, 25, 26, 27] (by decide +kernel) (by decide +kernel)
set_option maxRecDepth 20000 in
theorem gX10_checkResource_Jx4a65c_size_8abf5 : GoodIn wsX10_checkResource (wsV RX10 41 RJx4a65c yJx4a65c_size_8abf5 wsJx4a65c_size_8abf5) := goodIn_app (goodIn_of _ (by decide +kernel)) ggX10_checkResource_Jx4a65c_size_8abf5
set_option maxRecDepth 20000 in
theorem ggX10_checkResource_X10_isNumberOf : GoodIn wsX10_checkResource wsX10_isNumberOf := goodIn_r _ [14] (by decide +kernel) (by decide +kernel)
set_option maxRecDepth 20000 in
theorem gX10_checkResource_X10_isNumberOf : GoodIn wsX10_checkResource (va_wsS RX10 320 yX10_isNumberOf wsX10_isNumberOf) := goodIn_app (goodIn_of _ (by decide +kernel)) ggX10_checkResource_X10_isNumberOf
theorem dX10_checkResource_0 : decode cX10_checkResource 0 = .ok (.iload_n 1, 1) := by decide +kernel
theorem dX10_checkResource_1 : decode cX10_checkResource 1 = .ok (.aload_n 0, 1) := by decide +kernel
theorem dX10_checkResource_2 : decode cX10_checkResource 2 = .ok (.getfield 10, 3) := by decide +kernel
theorem dX10_checkResource_5 : decode cX10_checkResource 5 = .ok (.getfield 37, 3) := by decide +kernel
theorem dX10_checkResource_8 : decode cX10_checkResource 8 = .ok (.invokevirtual 41, 3) := by decide +kernel
theorem dX10_checkResource_11 : decode cX10_checkResource 11 = .ok (.invokestatic 320, 3) := by decide +kernel
theorem dX10_checkResource_14 : decode cX10_checkResource 14 = .ok (.ifCond .ne 14, 3) := by decide +kernel
theorem dX10_checkResource_17 : decode cX10_checkResource 17 = .ok (.new 323, 3) := by decide +kernel
theorem dX10_checkResource_20 : decode cX10_checkResource 20 = .ok (.dup, 1) := by decide +kernel
theorem dX10_checkResource_21 : decode cX10_checkResource 21 = .ok (.ldc_w 325, 3) := by decide +kernel
theorem dX10_checkResource_24 : decode cX10_checkResource 24 = .ok (.invokespecial 327, 3) := by decide +kernel
theorem dX10_checkResource_27 : decode cX10_checkResource 27 = .ok (.athrow, 1) := by decide +kernel
theorem dX10_checkResource_28 : decode cX10_checkResource 28 = .ok (.return_, 1) := by decide +kernel
set_option maxRecDepth 20000 in
theorem ggX10_checkCrew_Jx4a65c_size_8abf5 : GoodIn wsX10_checkCrew wsJx4a65c_size_8abf5 := goodIn_r _ [9, 10, 25, 26, 27] (by decide +kernel) (by decide +kernel)
set_option maxRecDepth 20000 in
theorem gX10_checkCrew_Jx4a65c_size_8abf5 : GoodIn wsX10_checkCrew (wsV RX10 41 RJx4a65c yJx4a65c_size_8abf5 wsJx4a65c_size_8abf5) := goodIn_app (goodIn_of _ (by decide +kernel)) ggX10_checkCrew_Jx4a65c_size_8abf5
set_option maxRecDepth 20000 in
theorem ggX10_checkCrew_X10_isNumberOf : GoodIn wsX10_checkCrew wsX10_isNumberOf := goodIn_r _ [14] (by decide +kernel) (by decide +kernel)
set_option maxRecDepth 20000 in
theorem gX10_checkCrew_X10_isNumberOf : GoodIn wsX10_checkCrew (va_wsS RX10 320 yX10_isNumberOf wsX10_isNumberOf) := goodIn_app (goodIn_of _ (by decide +kernel)) ggX10_checkCrew_X10_isNumberOf
theorem dX10_checkCrew_0 : decode cX10_checkCrew 0 = .ok (.iload_n 1, 1) := by decide +kernel
theorem dX10_checkCrew_1 : decode cX10_checkCrew 1 = .ok (.aload_n 0, 1) := by decide +kernel
theorem dX10_checkCrew_2 : decode cX10_checkCrew 2 = .ok (.getfield 10, 3) := by decide +kernel
theorem dX10_checkCrew_5 : decode cX10_checkCrew 5 = .ok (.getfield 70, 3) := by decide +kernel
theorem dX10_checkCrew_8 : decode cX10_checkCrew 8 = .ok (.invokevirtual 41, 3) := by decide +kernel
theorem dX10_checkCrew_11 : decode cX10_checkCrew 11 = .ok (.invokestatic 320, 3) := by decide +kernel
theorem dX10_checkCrew_14 : decode cX10_checkCrew 14 = .ok (.ifCond .ne 14, 3) := by decide +kernel
theorem dX10_checkCrew_17 : decode cX10_checkCrew 17 = .ok (.new 323, 3) := by decide +kernel
theorem dX10_checkCrew_20 : decode cX10_checkCrew 20 = .ok (.dup, 1) := by decide +kernel
theorem dX10_checkCrew_21 : decode cX10_checkCrew 21 = .ok (.ldc_w 328, 3) := by decide +kernel
theorem dX10_checkCrew_24 : decode cX10_checkCrew 24 = .ok (.invokespecial 327, 3) := by decide +kernel
theorem dX10_checkCrew_27 : decode cX10_checkCrew 27 = .ok (.athrow, 1) := by decide +kernel
theorem dX10_checkCrew_28 : decode cX10_checkCrew 28 = .ok (.return_, 1) := by decide +kernel
set_option maxRecDepth 20000 in
theorem ggX10_checkItem_Jx4a65c_size_8abf5 : GoodIn wsX10_checkItem wsJx4a65c_size_8abf5 := goodIn_r _ [9, 10, 25, 26, 27] (by decide +kernel) (by decide +kernel)
set_option maxRecDepth 20000 in
theorem gX10_checkItem_Jx4a65c_size_8abf5 : GoodIn wsX10_checkItem (wsV RX10 41 RJx4a65c yJx4a65c_size_8abf5 wsJx4a65c_size_8abf5) := goodIn_app (goodIn_of _ (by decide +kernel)) ggX10_checkItem_Jx4a65c_size_8abf5
set_option maxRecDepth 20000 in
theorem ggX10_checkItem_X10_isNumberOf : GoodIn wsX10_checkItem wsX10_isNumberOf := goodIn_r _ [14] (by decide +kernel) (by decide +kernel)
set_option maxRecDepth 20000 in
theorem gX10_checkItem_X10_isNumberOf : GoodIn wsX10_checkItem (va_wsS RX10 320 yX10_isNumberOf wsX10_isNumberOf) := goodIn_app (goodIn_of _ (by decide +kernel)) ggX10_checkItem_X10_isNumberOf
theorem dX10_checkItem_0 : decode cX10_checkItem 0 = .ok (.iload_n 1, 1) := by decide +kernel
theorem dX10_checkItem_1 : decode cX10_checkItem 1 = .ok (.aload_n 0, 1) := by decide +kernel
theorem dX10_checkItem_2 : decode cX10_checkItem 2 = .ok (.getfield 10, 3) := by decide +kernel
theorem dX10_checkItem_5 : decode cX10_checkItem 5 = .ok (.getfield 103, 3) := by decide +kernel
theorem dX10_checkItem_8 : decode cX10_checkItem 8 = .ok (.invokevirtual 41, 3) := by decide +kernel
theorem dX10_checkItem_11 : decode cX10_checkItem 11 = .ok (.invokestatic 320, 3) := by decide +kernel
theorem dX10_checkItem_14 : decode cX10_checkItem 14 = .ok (.ifCond .ne 14, 3) := by decide +kernel
theorem dX10_checkItem_17 : decode cX10_checkItem 17 = .ok (.new 323, 3) := by decide +kernel
theorem dX10_checkItem_20 : decode cX10_checkItem 20 = .ok (.dup, 1) := by decide +kernel
theorem dX10_checkItem_21 : decode cX10_checkItem 21 = .ok (.ldc_w 330, 3) := by decide +kernel
theorem dX10_checkItem_24 : decode cX10_checkItem 24 = .ok (.invokespecial 327, 3) := by decide +kernel
theorem dX10_checkItem_27 : decode cX10_checkItem 27 = .ok (.athrow, 1) := by decide +kernel
theorem dX10_checkItem_28 : decode cX10_checkItem 28 = .ok (.return_, 1) := by decide +kernel
set_option maxRecDepth 20000 in
theorem ggX10_checkLine_Jx4a65c_size_8abf5 : GoodIn wsX10_checkLine wsJx4a65c_size_8abf5 := goodIn_r _ [9, 10, 25, 26, 27] (by decide +kernel) (by decide +kernel)
set_option maxRecDepth 20000 in
theorem gX10_checkLine_Jx4a65c_size_8abf5 : GoodIn wsX10_checkLine (wsV RX10 41 RJx4a65c yJx4a65c_size_8abf5 wsJx4a65c_size_8abf5) := goodIn_app (goodIn_of _ (by decide +kernel)) ggX10_checkLine_Jx4a65c_size_8abf5
set_option maxRecDepth 20000 in
theorem ggX10_checkLine_X10_isNumberOf : GoodIn wsX10_checkLine wsX10_isNumberOf := goodIn_r _ [14] (by decide +kernel) (by decide +kernel)
set_option maxRecDepth 20000 in
theorem gX10_checkLine_X10_isNumberOf : GoodIn wsX10_checkLine (va_wsS RX10 320 yX10_isNumberOf wsX10_isNumberOf) := goodIn_app (goodIn_of _ (by decide +kernel)) ggX10_checkLine_X10_isNumberOf
theorem dX10_checkLine_0 : decode cX10_checkLine 0 = .ok (.iload_n 1, 1) := by decide +kernel
theorem dX10_checkLine_1 : decode cX10_checkLine 1 = .ok (.aload_n 0, 1) := by decide +kernel
theorem dX10_checkLine_2 : decode cX10_checkLine 2 = .ok (.getfield 10, 3) := by decide +kernel
theorem dX10_checkLine_5 : decode cX10_checkLine 5 = .ok (.getfield 153, 3) := by decide +kernel
theorem dX10_checkLine_8 : decode cX10_checkLine 8 = .ok (.invokevirtual 41, 3) := by decide +kernel
theorem dX10_checkLine_11 : decode cX10_checkLine 11 = .ok (.invokestatic 320, 3) := by decide +kernel
theorem dX10_checkLine_14 : decode cX10_checkLine 14 = .ok (.ifCond .ne 14, 3) := by decide +kernel
theorem dX10_checkLine_17 : decode cX10_checkLine 17 = .ok (.new 323, 3) := by decide +kernel
theorem dX10_checkLine_20 : decode cX10_checkLine 20 = .ok (.dup, 1) := by decide +kernel
theorem dX10_checkLine_21 : decode cX10_checkLine 21 = .ok (.ldc_w 332, 3) := by decide +kernel
theorem dX10_checkLine_24 : decode cX10_checkLine 24 = .ok (.invokespecial 327, 3) := by decide +kernel
theorem dX10_checkLine_27 : decode cX10_checkLine 27 = .ok (.athrow, 1) := by decide +kernel
theorem dX10_checkLine_28 : decode cX10_checkLine 28 = .ok (.return_, 1) := by decide +kernel
set_option maxRecDepth 20000 in
theorem ggX10_checkRow_Jx4a65c_size_8abf5 : GoodIn wsX10_checkRow wsJx4a65c_size_8abf5 := goodIn_r _ [9, 10, 25, 26, 27] (by decide +kernel) (by decide +kernel)
set_option maxRecDepth 20000 in
theorem gX10_checkRow_Jx4a65c_size_8abf5 : GoodIn wsX10_checkRow (wsV RX10 41 RJx4a65c yJx4a65c_size_8abf5 wsJx4a65c_size_8abf5) := goodIn_app (goodIn_of _ (by decide +kernel)) ggX10_checkRow_Jx4a65c_size_8abf5
set_option maxRecDepth 20000 in
theorem ggX10_checkRow_X10_isNumberOf : GoodIn wsX10_checkRow wsX10_isNumberOf := goodIn_r _ [14] (by decide +kernel) (by decide +kernel)
set_option maxRecDepth 20000 in
theorem gX10_checkRow_X10_isNumberOf : GoodIn wsX10_checkRow (va_wsS RX10 320 yX10_isNumberOf wsX10_isNumberOf) := goodIn_app (goodIn_of _ (by decide +kernel)) ggX10_checkRow_X10_isNumberOf
theorem dX10_checkRow_0 : decode cX10_checkRow 0 = .ok (.iload_n 1, 1) := by decide +kernel
theorem dX10_checkRow_1 : decode cX10_checkRow 1 = .ok (.aload_n 0, 1) := by decide +kernel
theorem dX10_checkRow_2 : decode cX10_checkRow 2 = .ok (.getfield 10, 3) := by decide +kernel
theorem dX10_checkRow_5 : decode cX10_checkRow 5 = .ok (.getfield 169, 3) := by decide +kernel
theorem dX10_checkRow_8 : decode cX10_checkRow 8 = .ok (.invokevirtual 41, 3) := by decide +kernel
theorem dX10_checkRow_11 : decode cX10_checkRow 11 = .ok (.invokestatic 320, 3) := by decide +kernel
theorem dX10_checkRow_14 : decode cX10_checkRow 14 = .ok (.ifCond .ne 14, 3) := by decide +kernel
theorem dX10_checkRow_17 : decode cX10_checkRow 17 = .ok (.new 323, 3) := by decide +kernel
theorem dX10_checkRow_20 : decode cX10_checkRow 20 = .ok (.dup, 1) := by decide +kernel
theorem dX10_checkRow_21 : decode cX10_checkRow 21 = .ok (.ldc_w 334, 3) := by decide +kernel
theorem dX10_checkRow_24 : decode cX10_checkRow 24 = .ok (.invokespecial 327, 3) := by decide +kernel
theorem dX10_checkRow_27 : decode cX10_checkRow 27 = .ok (.athrow, 1) := by decide +kernel
theorem dX10_checkRow_28 : decode cX10_checkRow 28 = .ok (.return_, 1) := by decide +kernel
set_option maxRecDepth 20000 in
theorem ggX10_checkVariant_Jx4a65c_size_8abf5 : GoodIn wsX10_checkVariant wsJx4a65c_size_8abf5 := goodIn_r _ [9, 10, 25, 26, 27] (by decide +kernel) (by decide +kernel)
set_option maxRecDepth 20000 in
theorem gX10_checkVariant_Jx4a65c_size_8abf5 : GoodIn wsX10_checkVariant (wsV RX10 41 RJx4a65c yJx4a65c_size_8abf5 wsJx4a65c_size_8abf5) := goodIn_app (goodIn_of _ (by decide +kernel)) ggX10_checkVariant_Jx4a65c_size_8abf5
set_option maxRecDepth 20000 in
theorem ggX10_checkVariant_X10_isNumberOf : GoodIn wsX10_checkVariant wsX10_isNumberOf := goodIn_r _ [14] (by decide +kernel) (by decide +kernel)
set_option maxRecDepth 20000 in
theorem gX10_checkVariant_X10_isNumberOf : GoodIn wsX10_checkVariant (va_wsS RX10 320 yX10_isNumberOf wsX10_isNumberOf) := goodIn_app (goodIn_of _ (by decide +kernel)) ggX10_checkVariant_X10_isNumberOf
theorem dX10_checkVariant_0 : decode cX10_checkVariant 0 = .ok (.iload_n 1, 1) := by decide +kernel
theorem dX10_checkVariant_1 : decode cX10_checkVariant 1 = .ok (.aload_n 0, 1) := by decide +kernel
theorem dX10_checkVariant_2 : decode cX10_checkVariant 2 = .ok (.getfield 10, 3) := by decide +kernel
theorem dX10_checkVariant_5 : decode cX10_checkVariant 5 = .ok (.getfield 199, 3) := by decide +kernel
theorem dX10_checkVariant_8 : decode cX10_checkVariant 8 = .ok (.invokevirtual 41, 3) := by decide +kernel
theorem dX10_checkVariant_11 : decode cX10_checkVariant 11 = .ok (.invokestatic 320, 3) := by decide +kernel
theorem dX10_checkVariant_14 : decode cX10_checkVariant 14 = .ok (.ifCond .ne 14, 3) := by decide +kernel
theorem dX10_checkVariant_17 : decode cX10_checkVariant 17 = .ok (.new 323, 3) := by decide +kernel
theorem dX10_checkVariant_20 : decode cX10_checkVariant 20 = .ok (.dup, 1) := by decide +kernel
theorem dX10_checkVariant_21 : decode cX10_checkVariant 21 = .ok (.ldc_w 336, 3) := by decide +kernel
theorem dX10_checkVariant_24 : decode cX10_checkVariant 24 = .ok (.invokespecial 327, 3) := by decide +kernel
theorem dX10_checkVariant_27 : decode cX10_checkVariant 27 = .ok (.athrow, 1) := by decide +kernel
theorem dX10_checkVariant_28 : decode cX10_checkVariant 28 = .ok (.return_, 1) := by decide +kernel
set_option maxRecDepth 20000 in
theorem ggX10_checkMarkup_Jx4a65c_size_8abf5 : GoodIn wsX10_checkMarkup wsJx4a65c_size_8abf5 := goodIn_r _ [9, 10, 25, 26, 27] (by decide +kernel) (by decide +kernel)
set_option maxRecDepth 20000 in
theorem gX10_checkMarkup_Jx4a65c_size_8abf5 : GoodIn wsX10_checkMarkup (wsV RX10 41 RJx4a65c yJx4a65c_size_8abf5 wsJx4a65c_size_8abf5) := goodIn_app (goodIn_of _ (by decide +kernel)) ggX10_checkMarkup_Jx4a65c_size_8abf5
set_option maxRecDepth 20000 in
theorem ggX10_checkMarkup_X10_isNumberOf : GoodIn wsX10_checkMarkup wsX10_isNumberOf := goodIn_r _ [14] (by decide +kernel) (by decide +kernel)
set_option maxRecDepth 20000 in
theorem gX10_checkMarkup_X10_isNumberOf : GoodIn wsX10_checkMarkup (va_wsS RX10 320 yX10_isNumberOf wsX10_isNumberOf) := goodIn_app (goodIn_of _ (by decide +kernel)) ggX10_checkMarkup_X10_isNumberOf
theorem dX10_checkMarkup_0 : decode cX10_checkMarkup 0 = .ok (.iload_n 1, 1) := by decide +kernel
theorem dX10_checkMarkup_1 : decode cX10_checkMarkup 1 = .ok (.aload_n 0, 1) := by decide +kernel
theorem dX10_checkMarkup_2 : decode cX10_checkMarkup 2 = .ok (.getfield 10, 3) := by decide +kernel
theorem dX10_checkMarkup_5 : decode cX10_checkMarkup 5 = .ok (.getfield 244, 3) := by decide +kernel
theorem dX10_checkMarkup_8 : decode cX10_checkMarkup 8 = .ok (.invokevirtual 41, 3) := by decide +kernel
theorem dX10_checkMarkup_11 : decode cX10_checkMarkup 11 = .ok (.invokestatic 320, 3) := by decide +kernel
theorem dX10_checkMarkup_14 : decode cX10_checkMarkup 14 = .ok (.ifCond .ne 14, 3) := by decide +kernel
theorem dX10_checkMarkup_17 : decode cX10_checkMarkup 17 = .ok (.new 323, 3) := by decide +kernel
theorem dX10_checkMarkup_20 : decode cX10_checkMarkup 20 = .ok (.dup, 1) := by decide +kernel
theorem dX10_checkMarkup_21 : decode cX10_checkMarkup 21 = .ok (.ldc_w 338, 3) := by decide +kernel
theorem dX10_checkMarkup_24 : decode cX10_checkMarkup 24 = .ok (.invokespecial 327, 3) := by decide +kernel
theorem dX10_checkMarkup_27 : decode cX10_checkMarkup 27 = .ok (.athrow, 1) := by decide +kernel
theorem dX10_checkMarkup_28 : decode cX10_checkMarkup 28 = .ok (.return_, 1) := by decide +kernel
theorem dX10_checkKind_0 : decode cX10_checkKind 0 = .ok (.iload_n 0, 1) := by decide +kernel
theorem dX10_checkKind_1 : decode cX10_checkKind 1 = .ok (.ifCond .eq 24, 3) := by decide +kernel
theorem dX10_checkKind_4 : decode cX10_checkKind 4 = .ok (.iload_n 0, 1) := by decide +kernel
theorem dX10_checkKind_5 : decode cX10_checkKind 5 = .ok (.iconst 1, 1) := by decide +kernel
theorem dX10_checkKind_6 : decode cX10_checkKind 6 = .ok (.if_icmp .eq 19, 3) := by decide +kernel
theorem dX10_checkKind_9 : decode cX10_checkKind 9 = .ok (.iload_n 0, 1) := by decide +kernel
theorem dX10_checkKind_10 : decode cX10_checkKind 10 = .ok (.iconst 2, 1) := by decide +kernel
theorem dX10_checkKind_11 : decode cX10_checkKind 11 = .ok (.if_icmp .eq 14, 3) := by decide +kernel
theorem dX10_checkKind_14 : decode cX10_checkKind 14 = .ok (.new 208, 3) := by decide +kernel
theorem dX10_checkKind_17 : decode cX10_checkKind 17 = .ok (.dup, 1) := by decide +kernel
theorem dX10_checkKind_18 : decode cX10_checkKind 18 = .ok (.ldc_w 340, 3) := by decide +kernel
theorem dX10_checkKind_21 : decode cX10_checkKind 21 = .ok (.invokespecial 212, 3) := by decide +kernel
theorem dX10_checkKind_24 : decode cX10_checkKind 24 = .ok (.athrow, 1) := by decide +kernel
theorem dX10_checkKind_25 : decode cX10_checkKind 25 = .ok (.return_, 1) := by decide +kernel
theorem dX10_checkShape_0 : decode cX10_checkShape 0 = .ok (.iload_n 0, 1) := by decide +kernel
theorem dX10_checkShape_1 : decode cX10_checkShape 1 = .ok (.bipush 110, 2) := by decide +kernel
theorem dX10_checkShape_3 : decode cX10_checkShape 3 = .ok (.if_icmp .eq 44, 3) := by decide +kernel
theorem dX10_checkShape_6 : decode cX10_checkShape 6 = .ok (.iload_n 0, 1) := by decide +kernel
theorem dX10_checkShape_7 : decode cX10_checkShape 7 = .ok (.bipush 108, 2) := by decide +kernel
theorem dX10_checkShape_9 : decode cX10_checkShape 9 = .ok (.if_icmp .eq 38, 3) := by decide +kernel
theorem dX10_checkShape_12 : decode cX10_checkShape 12 = .ok (.iload_n 0, 1) := by decide +kernel
theorem dX10_checkShape_13 : decode cX10_checkShape 13 = .ok (.bipush 114, 2) := by decide +kernel
theorem dX10_checkShape_15 : decode cX10_checkShape 15 = .ok (.if_icmp .eq 32, 3) := by decide +kernel
theorem dX10_checkShape_18 : decode cX10_checkShape 18 = .ok (.iload_n 0, 1) := by decide +kernel
theorem dX10_checkShape_19 : decode cX10_checkShape 19 = .ok (.bipush 116, 2) := by decide +kernel
theorem dX10_checkShape_21 : decode cX10_checkShape 21 = .ok (.if_icmp .eq 26, 3) := by decide +kernel
theorem dX10_checkShape_24 : decode cX10_checkShape 24 = .ok (.iload_n 0, 1) := by decide +kernel
theorem dX10_checkShape_25 : decode cX10_checkShape 25 = .ok (.bipush 112, 2) := by decide +kernel
theorem dX10_checkShape_27 : decode cX10_checkShape 27 = .ok (.if_icmp .eq 20, 3) := by decide +kernel
theorem dX10_checkShape_30 : decode cX10_checkShape 30 = .ok (.iload_n 0, 1) := by decide +kernel
theorem dX10_checkShape_31 : decode cX10_checkShape 31 = .ok (.bipush 118, 2) := by decide +kernel
theorem dX10_checkShape_33 : decode cX10_checkShape 33 = .ok (.if_icmp .eq 14, 3) := by decide +kernel
theorem dX10_checkShape_36 : decode cX10_checkShape 36 = .ok (.new 208, 3) := by decide +kernel
theorem dX10_checkShape_39 : decode cX10_checkShape 39 = .ok (.dup, 1) := by decide +kernel
theorem dX10_checkShape_40 : decode cX10_checkShape 40 = .ok (.ldc_w 342, 3) := by decide +kernel
theorem dX10_checkShape_43 : decode cX10_checkShape 43 = .ok (.invokespecial 212, 3) := by decide +kernel
theorem dX10_checkShape_46 : decode cX10_checkShape 46 = .ok (.athrow, 1) := by decide +kernel
theorem dX10_checkShape_47 : decode cX10_checkShape 47 = .ok (.return_, 1) := by decide +kernel
set_option maxRecDepth 20000 in
theorem ggX10_checkTimes_X10_checkRange : GoodIn wsX10_checkTimes wsX10_checkRange := goodIn_ca (goodIn_r _ [6, 1, 2] (by decide +kernel) (by decide +kernel)) (goodIn_sub (fun _ h => List.mem_cons_of_mem _ (List.mem_append_right _ h)) (by decide +kernel))
set_option maxRecDepth 20000 in
theorem gX10_checkTimes_X10_checkRange : GoodIn wsX10_checkTimes (va_wsS RX10 33 yX10_checkRange wsX10_checkRange) := goodIn_app (goodIn_of _ (by decide +kernel)) ggX10_checkTimes_X10_checkRange
theorem dX10_checkTimes_0 : decode cX10_checkTimes 0 = .ok (.iload_n 0, 1) := by decide +kernel
theorem dX10_checkTimes_1 : decode cX10_checkTimes 1 = .ok (.bipush (-9), 2) := by decide +kernel
theorem dX10_checkTimes_3 : decode cX10_checkTimes 3 = .ok (.bipush 99, 2) := by decide +kernel
theorem dX10_checkTimes_5 : decode cX10_checkTimes 5 = .ok (.invokestatic 33, 3) := by decide +kernel
theorem dX10_checkTimes_8 : decode cX10_checkTimes 8 = .ok (.iload_n 0, 1) := by decide +kernel
theorem dX10_checkTimes_9 : decode cX10_checkTimes 9 = .ok (.ifCond .ne 14, 3) := by decide +kernel
theorem dX10_checkTimes_12 : decode cX10_checkTimes 12 = .ok (.new 208, 3) := by decide +kernel
theorem dX10_checkTimes_15 : decode cX10_checkTimes 15 = .ok (.dup, 1) := by decide +kernel
theorem dX10_checkTimes_16 : decode cX10_checkTimes 16 = .ok (.ldc_w 344, 3) := by decide +kernel
theorem dX10_checkTimes_19 : decode cX10_checkTimes 19 = .ok (.invokespecial 212, 3) := by decide +kernel
theorem dX10_checkTimes_22 : decode cX10_checkTimes 22 = .ok (.athrow, 1) := by decide +kernel
theorem dX10_checkTimes_23 : decode cX10_checkTimes 23 = .ok (.return_, 1) := by decide +kernel
theorem dX10_checkRange_0 : decode cX10_checkRange 0 = .ok (.iload_n 0, 1) := by decide +kernel
theorem dX10_checkRange_1 : decode cX10_checkRange 1 = .ok (.iload_n 1, 1) := by decide +kernel
theorem dX10_checkRange_2 : decode cX10_checkRange 2 = .ok (.if_icmp .lt 8, 3) := by decide +kernel
theorem dX10_checkRange_5 : decode cX10_checkRange 5 = .ok (.iload_n 0, 1) := by decide +kernel
theorem dX10_checkRange_6 : decode cX10_checkRange 6 = .ok (.iload_n 2, 1) := by decide +kernel
theorem dX10_checkRange_7 : decode cX10_checkRange 7 = .ok (.if_icmp .le 14, 3) := by decide +kernel
theorem dX10_checkRange_10 : decode cX10_checkRange 10 = .ok (.new 208, 3) := by decide +kernel
theorem dX10_checkRange_13 : decode cX10_checkRange 13 = .ok (.dup, 1) := by decide +kernel
theorem dX10_checkRange_14 : decode cX10_checkRange 14 = .ok (.ldc_w 346, 3) := by decide +kernel
theorem dX10_checkRange_17 : decode cX10_checkRange 17 = .ok (.invokespecial 212, 3) := by decide +kernel
theorem dX10_checkRange_20 : decode cX10_checkRange 20 = .ok (.athrow, 1) := by decide +kernel
theorem dX10_checkRange_21 : decode cX10_checkRange 21 = .ok (.return_, 1) := by decide +kernel
theorem dX10_checkRoom_0 : decode cX10_checkRoom 0 = .ok (.iload_n 0, 1) := by decide +kernel
theorem dX10_checkRoom_1 : decode cX10_checkRoom 1 = .ok (.iload_n 1, 1) := by decide +kernel
theorem dX10_checkRoom_2 : decode cX10_checkRoom 2 = .ok (.if_icmp .lt 14, 3) := by decide +kernel
theorem dX10_checkRoom_5 : decode cX10_checkRoom 5 = .ok (.new 93, 3) := by decide +kernel
theorem dX10_checkRoom_8 : decode cX10_checkRoom 8 = .ok (.dup, 1) := by decide +kernel
theorem dX10_checkRoom_9 : decode cX10_checkRoom 9 = .ok (.ldc_w 348, 3) := by decide +kernel
theorem dX10_checkRoom_12 : decode cX10_checkRoom 12 = .ok (.invokespecial 97, 3) := by decide +kernel
theorem dX10_checkRoom_15 : decode cX10_checkRoom 15 = .ok (.athrow, 1) := by decide +kernel
theorem dX10_checkRoom_16 : decode cX10_checkRoom 16 = .ok (.return_, 1) := by decide +kernel
set_option maxRecDepth 20000 in
theorem ggX10_checkOff_X10_hasBit : GoodIn wsX10_checkOff wsX10_hasBit := goodIn_r _ [7] (by decide +kernel) (by decide +kernel)
set_option maxRecDepth 20000 in
theorem gX10_checkOff_X10_hasBit : GoodIn wsX10_checkOff (va_wsS RX10 230 yX10_hasBit wsX10_hasBit) := goodIn_app (goodIn_of _ (by decide +kernel)) ggX10_checkOff_X10_hasBit
theorem dX10_checkOff_0 : decode cX10_checkOff 0 = .ok (.aload_n 0, 1) := by decide +kernel
theorem dX10_checkOff_1 : decode cX10_checkOff 1 = .ok (.getfield 25, 3) := by decide +kernel
theorem dX10_checkOff_4 : decode cX10_checkOff 4 = .ok (.iload_n 1, 1) := by decide +kernel
theorem dX10_checkOff_5 : decode cX10_checkOff 5 = .ok (.invokestatic 230, 3) := by decide +kernel
theorem dX10_checkOff_8 : decode cX10_checkOff 8 = .ok (.ifCond .eq 14, 3) := by decide +kernel
theorem dX10_checkOff_11 : decode cX10_checkOff 11 = .ok (.new 93, 3) := by decide +kernel
theorem dX10_checkOff_14 : decode cX10_checkOff 14 = .ok (.dup, 1) := by decide +kernel
theorem dX10_checkOff_15 : decode cX10_checkOff 15 = .ok (.ldc_w 350, 3) := by decide +kernel
theorem dX10_checkOff_18 : decode cX10_checkOff 18 = .ok (.invokespecial 97, 3) := by decide +kernel
theorem dX10_checkOff_21 : decode cX10_checkOff 21 = .ok (.athrow, 1) := by decide +kernel
theorem dX10_checkOff_22 : decode cX10_checkOff 22 = .ok (.return_, 1) := by decide +kernel
set_option maxRecDepth 20000 in
theorem ggX10_checkFits_X2_choose : GoodIn wsX10_checkFits wsX2_choose := goodIn_ca (goodIn_r _ [8, 9, 10, 11, 12, 13, 14, 15, 16, 17, 18, 19, 20, 21, 22, 7, 23, 24, 25, 26, 27, 28, 29, 30, 31, 32, 33, 34, 35, 36, 37, 38, 39, 40, 41, 42, 43, 44, 45, 46, 47, 48, 49, 50, 51, 52, 53, 54, 55, 56, 57, 58, 59, 60, 61, 62, 63, 64, 65, 66, 67, 68, 69, 70, 71, 72, 73, 77, 78, 79, 80, 81, 82, 83, 84, 85, 86, 87, 88, 89, 90, 91, 92, 93, 94, 95, 96, 97, 98, 99, 100, 101, 102] (by decide +kernel) (by decide +kernel)) (goodIn_sub (fun _ h => List.mem_cons_of_mem _ (List.mem_append_right _ h)) (by decide +kernel))
set_option maxRecDepth 20000 in
theorem gX10_checkFits_X2_choose : GoodIn wsX10_checkFits (wsV RX10 121 RX2 yX2_choose wsX2_choose) := goodIn_app (goodIn_of _ (by decide +kernel)) ggX10_checkFits_X2_choose
theorem dX10_checkFits_0 : decode cX10_checkFits 0 = .ok (.aload_n 0, 1) := by decide +kernel
theorem dX10_checkFits_1 : decode cX10_checkFits 1 = .ok (.getfield 21, 3) := by decide +kernel
theorem dX10_checkFits_4 : decode cX10_checkFits 4 = .ok (.iload_n 1, 1) := by decide +kernel
theorem dX10_checkFits_5 : decode cX10_checkFits 5 = .ok (.invokevirtual 121, 3) := by decide +kernel
theorem dX10_checkFits_8 : decode cX10_checkFits 8 = .ok (.ifCond .ne 13, 3) := by decide +kernel
theorem dX10_checkFits_11 : decode cX10_checkFits 11 = .ok (.new 82, 3) := by decide +kernel
theorem dX10_checkFits_14 : decode cX10_checkFits 14 = .ok (.dup, 1) := by decide +kernel
theorem dX10_checkFits_15 : decode cX10_checkFits 15 = .ok (.ldc 127, 2) := by decide +kernel
theorem dX10_checkFits_17 : decode cX10_checkFits 17 = .ok (.invokespecial 86, 3) := by decide +kernel
theorem dX10_checkFits_20 : decode cX10_checkFits 20 = .ok (.athrow, 1) := by decide +kernel
theorem dX10_checkFits_21 : decode cX10_checkFits 21 = .ok (.return_, 1) := by decide +kernel
theorem dX10_checkDivisor_0 : decode cX10_checkDivisor 0 = .ok (.lload_n 0, 1) := by decide +kernel
theorem dX10_checkDivisor_1 : decode cX10_checkDivisor 1 = .ok (.lconst 0, 1) := by decide +kernel
theorem dX10_checkDivisor_2 : decode cX10_checkDivisor 2 = .ok (.lcmp, 1) := by decide +kernel
theorem dX10_checkDivisor_3 : decode cX10_checkDivisor 3 = .ok (.ifCond .ne 14, 3) := by decide +kernel
theorem dX10_checkDivisor_6 : decode cX10_checkDivisor 6 = .ok (.new 315, 3) := by decide +kernel
theorem dX10_checkDivisor_9 : decode cX10_checkDivisor 9 = .ok (.dup, 1) := by decide +kernel
theorem dX10_checkDivisor_10 : decode cX10_checkDivisor 10 = .ok (.ldc_w 352, 3) := by decide +kernel
theorem dX10_checkDivisor_13 : decode cX10_checkDivisor 13 = .ok (.invokespecial 319, 3) := by decide +kernel
theorem dX10_checkDivisor_16 : decode cX10_checkDivisor 16 = .ok (.athrow, 1) := by decide +kernel
theorem dX10_checkDivisor_17 : decode cX10_checkDivisor 17 = .ok (.return_, 1) := by decide +kernel

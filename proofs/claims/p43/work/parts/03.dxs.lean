theorem dX0_init_0 : decode cX0_init 0 = .ok (.aload_n 0, 1) := by decide +kernel
theorem dX0_init_1 : decode cX0_init 1 = .ok (.invokespecial 1, 3) := by decide +kernel
theorem dX0_init_4 : decode cX0_init 4 = .ok (.aload_n 0, 1) := by decide +kernel
theorem dX0_init_5 : decode cX0_init 5 = .ok (.iload_n 1, 1) := by decide +kernel
theorem dX0_init_6 : decode cX0_init 6 = .ok (.putfield 7, 3) := by decide +kernel
theorem dX0_init_9 : decode cX0_init 9 = .ok (.aload_n 0, 1) := by decide +kernel
theorem dX0_init_10 : decode cX0_init 10 = .ok (.iload_n 2, 1) := by decide +kernel
theorem dX0_init_11 : decode cX0_init 11 = .ok (.putfield 13, 3) := by decide +kernel
theorem dX0_init_14 : decode cX0_init 14 = .ok (.aload_n 0, 1) := by decide +kernel
theorem dX0_init_15 : decode cX0_init 15 = .ok (.iload_n 3, 1) := by decide +kernel
theorem dX0_init_16 : decode cX0_init 16 = .ok (.putfield 16, 3) := by decide +kernel
theorem dX0_init_19 : decode cX0_init 19 = .ok (.return_, 1) := by decide +kernel
theorem dX1_init_0 : decode cX1_init 0 = .ok (.aload_n 0, 1) := by decide +kernel
theorem dX1_init_1 : decode cX1_init 1 = .ok (.invokespecial 3, 3) := by decide +kernel
theorem dX1_init_4 : decode cX1_init 4 = .ok (.aload_n 0, 1) := by decide +kernel
theorem dX1_init_5 : decode cX1_init 5 = .ok (.iconst 3, 1) := by decide +kernel
theorem dX1_init_6 : decode cX1_init 6 = .ok (.newarray .int, 2) := by decide +kernel
theorem dX1_init_8 : decode cX1_init 8 = .ok (.putfield 9, 3) := by decide +kernel
theorem dX1_init_11 : decode cX1_init 11 = .ok (.aload_n 0, 1) := by decide +kernel
theorem dX1_init_12 : decode cX1_init 12 = .ok (.iconst 3, 1) := by decide +kernel
theorem dX1_init_13 : decode cX1_init 13 = .ok (.newarray .int, 2) := by decide +kernel
theorem dX1_init_15 : decode cX1_init 15 = .ok (.putfield 15, 3) := by decide +kernel
theorem dX1_init_18 : decode cX1_init 18 = .ok (.aload_n 0, 1) := by decide +kernel
theorem dX1_init_19 : decode cX1_init 19 = .ok (.iconst 0, 1) := by decide +kernel
theorem dX1_init_20 : decode cX1_init 20 = .ok (.putfield 18, 3) := by decide +kernel
theorem dX1_init_23 : decode cX1_init 23 = .ok (.return_, 1) := by decide +kernel
theorem dX1_hasMember_0 : decode cX1_hasMember 0 = .ok (.iconst 0, 1) := by decide +kernel
theorem dX1_hasMember_1 : decode cX1_hasMember 1 = .ok (.istore_n 2, 1) := by decide +kernel
theorem dX1_hasMember_2 : decode cX1_hasMember 2 = .ok (.iload_n 2, 1) := by decide +kernel
theorem dX1_hasMember_3 : decode cX1_hasMember 3 = .ok (.aload_n 0, 1) := by decide +kernel
theorem dX1_hasMember_4 : decode cX1_hasMember 4 = .ok (.getfield 18, 3) := by decide +kernel
theorem dX1_hasMember_7 : decode cX1_hasMember 7 = .ok (.if_icmp .ge 21, 3) := by decide +kernel
theorem dX1_hasMember_10 : decode cX1_hasMember 10 = .ok (.aload_n 0, 1) := by decide +kernel
theorem dX1_hasMember_11 : decode cX1_hasMember 11 = .ok (.getfield 9, 3) := by decide +kernel
theorem dX1_hasMember_14 : decode cX1_hasMember 14 = .ok (.iload_n 2, 1) := by decide +kernel
theorem dX1_hasMember_15 : decode cX1_hasMember 15 = .ok (.iaload, 1) := by decide +kernel
theorem dX1_hasMember_16 : decode cX1_hasMember 16 = .ok (.iload_n 1, 1) := by decide +kernel
theorem dX1_hasMember_17 : decode cX1_hasMember 17 = .ok (.if_icmp .ne 5, 3) := by decide +kernel
theorem dX1_hasMember_20 : decode cX1_hasMember 20 = .ok (.iconst 1, 1) := by decide +kernel
theorem dX1_hasMember_21 : decode cX1_hasMember 21 = .ok (.ireturn, 1) := by decide +kernel
theorem dX1_hasMember_22 : decode cX1_hasMember 22 = .ok (.iinc 2 1, 3) := by decide +kernel
theorem dX1_hasMember_25 : decode cX1_hasMember 25 = .ok (.goto (-23), 3) := by decide +kernel
theorem dX1_hasMember_28 : decode cX1_hasMember 28 = .ok (.iconst 0, 1) := by decide +kernel
theorem dX1_hasMember_29 : decode cX1_hasMember 29 = .ok (.ireturn, 1) := by decide +kernel
theorem dX1_join_0 : decode cX1_join 0 = .ok (.aload_n 0, 1) := by decide +kernel
theorem dX1_join_1 : decode cX1_join 1 = .ok (.getfield 9, 3) := by decide +kernel
theorem dX1_join_4 : decode cX1_join 4 = .ok (.aload_n 0, 1) := by decide +kernel
theorem dX1_join_5 : decode cX1_join 5 = .ok (.getfield 18, 3) := by decide +kernel
theorem dX1_join_8 : decode cX1_join 8 = .ok (.iload_n 1, 1) := by decide +kernel
theorem dX1_join_9 : decode cX1_join 9 = .ok (.iastore, 1) := by decide +kernel
theorem dX1_join_10 : decode cX1_join 10 = .ok (.aload_n 0, 1) := by decide +kernel
theorem dX1_join_11 : decode cX1_join 11 = .ok (.getfield 15, 3) := by decide +kernel
theorem dX1_join_14 : decode cX1_join 14 = .ok (.aload_n 0, 1) := by decide +kernel
theorem dX1_join_15 : decode cX1_join 15 = .ok (.getfield 18, 3) := by decide +kernel
theorem dX1_join_18 : decode cX1_join 18 = .ok (.iload_n 2, 1) := by decide +kernel
theorem dX1_join_19 : decode cX1_join 19 = .ok (.iastore, 1) := by decide +kernel
theorem dX1_join_20 : decode cX1_join 20 = .ok (.aload_n 0, 1) := by decide +kernel
theorem dX1_join_21 : decode cX1_join 21 = .ok (.dup, 1) := by decide +kernel
theorem dX1_join_22 : decode cX1_join 22 = .ok (.getfield 18, 3) := by decide +kernel
theorem dX1_join_25 : decode cX1_join 25 = .ok (.iconst 1, 1) := by decide +kernel
theorem dX1_join_26 : decode cX1_join 26 = .ok (.iadd, 1) := by decide +kernel
theorem dX1_join_27 : decode cX1_join 27 = .ok (.putfield 18, 3) := by decide +kernel
theorem dX1_join_30 : decode cX1_join 30 = .ok (.return_, 1) := by decide +kernel
theorem dX2_init_0 : decode cX2_init 0 = .ok (.aload_n 0, 1) := by decide +kernel
theorem dX2_init_1 : decode cX2_init 1 = .ok (.invokespecial 3, 3) := by decide +kernel
theorem dX2_init_4 : decode cX2_init 4 = .ok (.aload_n 0, 1) := by decide +kernel
theorem dX2_init_5 : decode cX2_init 5 = .ok (.bipush 12, 2) := by decide +kernel
theorem dX2_init_7 : decode cX2_init 7 = .ok (.newarray .int, 2) := by decide +kernel
theorem dX2_init_9 : decode cX2_init 9 = .ok (.putfield 9, 3) := by decide +kernel
theorem dX2_init_12 : decode cX2_init 12 = .ok (.aload_n 0, 1) := by decide +kernel
theorem dX2_init_13 : decode cX2_init 13 = .ok (.bipush 12, 2) := by decide +kernel
theorem dX2_init_15 : decode cX2_init 15 = .ok (.newarray .int, 2) := by decide +kernel
theorem dX2_init_17 : decode cX2_init 17 = .ok (.putfield 15, 3) := by decide +kernel
theorem dX2_init_20 : decode cX2_init 20 = .ok (.aload_n 0, 1) := by decide +kernel
theorem dX2_init_21 : decode cX2_init 21 = .ok (.bipush 12, 2) := by decide +kernel
theorem dX2_init_23 : decode cX2_init 23 = .ok (.newarray .int, 2) := by decide +kernel
theorem dX2_init_25 : decode cX2_init 25 = .ok (.putfield 18, 3) := by decide +kernel
theorem dX2_init_28 : decode cX2_init 28 = .ok (.aload_n 0, 1) := by decide +kernel
theorem dX2_init_29 : decode cX2_init 29 = .ok (.bipush 12, 2) := by decide +kernel
theorem dX2_init_31 : decode cX2_init 31 = .ok (.bipush 12, 2) := by decide +kernel
theorem dX2_init_33 : decode cX2_init 33 = .ok (.multianewarray 21 2, 4) := by decide +kernel
theorem dX2_init_37 : decode cX2_init 37 = .ok (.putfield 23, 3) := by decide +kernel
theorem dX2_init_40 : decode cX2_init 40 = .ok (.aload_n 0, 1) := by decide +kernel
theorem dX2_init_41 : decode cX2_init 41 = .ok (.bipush 12, 2) := by decide +kernel
theorem dX2_init_43 : decode cX2_init 43 = .ok (.bipush 12, 2) := by decide +kernel
theorem dX2_init_45 : decode cX2_init 45 = .ok (.multianewarray 21 2, 4) := by decide +kernel
theorem dX2_init_49 : decode cX2_init 49 = .ok (.putfield 26, 3) := by decide +kernel
theorem dX2_init_52 : decode cX2_init 52 = .ok (.aload_n 0, 1) := by decide +kernel
theorem dX2_init_53 : decode cX2_init 53 = .ok (.bipush 12, 2) := by decide +kernel
theorem dX2_init_55 : decode cX2_init 55 = .ok (.newarray .long, 2) := by decide +kernel
theorem dX2_init_57 : decode cX2_init 57 = .ok (.putfield 29, 3) := by decide +kernel
theorem dX2_init_60 : decode cX2_init 60 = .ok (.aload_n 0, 1) := by decide +kernel
theorem dX2_init_61 : decode cX2_init 61 = .ok (.bipush 12, 2) := by decide +kernel
theorem dX2_init_63 : decode cX2_init 63 = .ok (.newarray .long, 2) := by decide +kernel
theorem dX2_init_65 : decode cX2_init 65 = .ok (.putfield 33, 3) := by decide +kernel
theorem dX2_init_68 : decode cX2_init 68 = .ok (.aload_n 0, 1) := by decide +kernel
theorem dX2_init_69 : decode cX2_init 69 = .ok (.iconst 4, 1) := by decide +kernel
theorem dX2_init_70 : decode cX2_init 70 = .ok (.newarray .long, 2) := by decide +kernel
theorem dX2_init_72 : decode cX2_init 72 = .ok (.putfield 36, 3) := by decide +kernel
theorem dX2_init_75 : decode cX2_init 75 = .ok (.aload_n 0, 1) := by decide +kernel
theorem dX2_init_76 : decode cX2_init 76 = .ok (.aload_n 1, 1) := by decide +kernel
theorem dX2_init_77 : decode cX2_init 77 = .ok (.putfield 39, 3) := by decide +kernel
theorem dX2_init_80 : decode cX2_init 80 = .ok (.return_, 1) := by decide +kernel
set_option maxRecDepth 20000 in
theorem ggX2_choose_Jx4a65c_size_8abf5 : GoodIn wsX2_choose wsJx4a65c_size_8abf5 := goodIn_r _ [10, 11, 83, 84, 85] (by decide +kernel) (by decide +kernel)
set_option maxRecDepth 20000 in
theorem gX2_choose_Jx4a65c_size_8abf5 : GoodIn wsX2_choose (wsV RX2 49 RJx4a65c yJx4a65c_size_8abf5 wsJx4a65c_size_8abf5) := goodIn_app (goodIn_of _ (by decide +kernel)) ggX2_choose_Jx4a65c_size_8abf5
set_option maxRecDepth 20000 in
theorem ggX2_choose_X2_meantItem : GoodIn wsX2_choose wsX2_meantItem := goodIn_ca (goodIn_r _ [16, 1, 17, 18, 19, 6, 7, 8, 9, 10, 11, 20, 21, 22, 23, 24, 25, 26, 27, 28, 29, 30, 31, 32, 33, 34, 35, 36, 37, 38, 39, 67, 68, 69, 70, 71, 72, 73, 74, 75, 76, 77, 78, 79, 80, 81, 82, 86, 87, 83, 84, 85] (by decide +kernel) (by decide +kernel)) (goodIn_sub (fun _ h => List.mem_cons_of_mem _ (List.mem_append_right _ h)) (by decide +kernel))
set_option maxRecDepth 20000 in
theorem gX2_choose_X2_meantItem : GoodIn wsX2_choose (wsV RX2 55 RX2 yX2_meantItem wsX2_meantItem) := goodIn_app (goodIn_of _ (by decide +kernel)) ggX2_choose_X2_meantItem
set_option maxRecDepth 20000 in
theorem ggX2_choose_X2_meantResource : GoodIn wsX2_choose wsX2_meantResource := goodIn_ca (goodIn_r _ [43, 1, 17, 18, 44, 6, 7, 8, 9, 10, 11, 20, 21, 22, 23, 24, 25, 26, 27, 28, 29, 30, 31, 32, 33, 34, 35, 36, 37, 38, 39, 67, 68, 69, 70, 71, 72, 73, 74, 75, 76, 77, 78, 79, 80, 81, 82, 86, 87, 83, 84, 85] (by decide +kernel) (by decide +kernel)) (goodIn_sub (fun _ h => List.mem_cons_of_mem _ (List.mem_append_right _ h)) (by decide +kernel))
set_option maxRecDepth 20000 in
theorem gX2_choose_X2_meantResource : GoodIn wsX2_choose (wsV RX2 62 RX2 yX2_meantResource wsX2_meantResource) := goodIn_app (goodIn_of _ (by decide +kernel)) ggX2_choose_X2_meantResource
set_option maxRecDepth 20000 in
theorem ggX2_choose_X2_findDepths : GoodIn wsX2_choose wsX2_findDepths := goodIn_ca (goodIn_r _ [48, 49, 1, 2, 50, 51, 52, 53, 6, 7, 8, 9, 10, 11, 54, 55, 56, 15, 57, 58, 59, 60, 61, 3, 62, 63, 64, 65, 66, 20, 21, 22, 23, 24, 25, 26, 27, 28, 29, 30, 31, 32, 33, 34, 35, 36, 67, 68, 69, 70, 71, 72, 73, 74, 75, 76, 77, 78, 79, 80, 81, 82, 83, 84, 85, 88, 89, 90, 91, 92] (by decide +kernel) (by decide +kernel)) (goodIn_sub (fun _ h => List.mem_cons_of_mem _ (List.mem_append_right _ h)) (by decide +kernel))
set_option maxRecDepth 20000 in
theorem gX2_choose_X2_findDepths : GoodIn wsX2_choose (wsV RX2 65 RX2 yX2_findDepths wsX2_findDepths) := goodIn_app (goodIn_of _ (by decide +kernel)) ggX2_choose_X2_findDepths
theorem dX2_choose_0 : decode cX2_choose 0 = .ok (.iconst 0, 1) := by decide +kernel
theorem dX2_choose_1 : decode cX2_choose 1 = .ok (.istore_n 2, 1) := by decide +kernel
theorem dX2_choose_2 : decode cX2_choose 2 = .ok (.iload_n 2, 1) := by decide +kernel
theorem dX2_choose_3 : decode cX2_choose 3 = .ok (.aload_n 0, 1) := by decide +kernel
theorem dX2_choose_4 : decode cX2_choose 4 = .ok (.getfield 39, 3) := by decide +kernel
theorem dX2_choose_7 : decode cX2_choose 7 = .ok (.getfield 43, 3) := by decide +kernel
theorem dX2_choose_10 : decode cX2_choose 10 = .ok (.invokevirtual 49, 3) := by decide +kernel
theorem dX2_choose_13 : decode cX2_choose 13 = .ok (.if_icmp .ge 21, 3) := by decide +kernel
theorem dX2_choose_16 : decode cX2_choose 16 = .ok (.aload_n 0, 1) := by decide +kernel
theorem dX2_choose_17 : decode cX2_choose 17 = .ok (.getfield 9, 3) := by decide +kernel
theorem dX2_choose_20 : decode cX2_choose 20 = .ok (.iload_n 2, 1) := by decide +kernel
theorem dX2_choose_21 : decode cX2_choose 21 = .ok (.aload_n 0, 1) := by decide +kernel
theorem dX2_choose_22 : decode cX2_choose 22 = .ok (.iload_n 1, 1) := by decide +kernel
theorem dX2_choose_23 : decode cX2_choose 23 = .ok (.iload_n 2, 1) := by decide +kernel
theorem dX2_choose_24 : decode cX2_choose 24 = .ok (.invokevirtual 55, 3) := by decide +kernel
theorem dX2_choose_27 : decode cX2_choose 27 = .ok (.iastore, 1) := by decide +kernel
theorem dX2_choose_28 : decode cX2_choose 28 = .ok (.iinc 2 1, 3) := by decide +kernel
theorem dX2_choose_31 : decode cX2_choose 31 = .ok (.goto (-29), 3) := by decide +kernel
theorem dX2_choose_34 : decode cX2_choose 34 = .ok (.iconst 0, 1) := by decide +kernel
theorem dX2_choose_35 : decode cX2_choose 35 = .ok (.istore_n 2, 1) := by decide +kernel
theorem dX2_choose_36 : decode cX2_choose 36 = .ok (.iload_n 2, 1) := by decide +kernel
theorem dX2_choose_37 : decode cX2_choose 37 = .ok (.aload_n 0, 1) := by decide +kernel
theorem dX2_choose_38 : decode cX2_choose 38 = .ok (.getfield 39, 3) := by decide +kernel
theorem dX2_choose_41 : decode cX2_choose 41 = .ok (.getfield 59, 3) := by decide +kernel
theorem dX2_choose_44 : decode cX2_choose 44 = .ok (.invokevirtual 49, 3) := by decide +kernel
theorem dX2_choose_47 : decode cX2_choose 47 = .ok (.if_icmp .ge 21, 3) := by decide +kernel
theorem dX2_choose_50 : decode cX2_choose 50 = .ok (.aload_n 0, 1) := by decide +kernel
theorem dX2_choose_51 : decode cX2_choose 51 = .ok (.getfield 15, 3) := by decide +kernel
theorem dX2_choose_54 : decode cX2_choose 54 = .ok (.iload_n 2, 1) := by decide +kernel
theorem dX2_choose_55 : decode cX2_choose 55 = .ok (.aload_n 0, 1) := by decide +kernel
theorem dX2_choose_56 : decode cX2_choose 56 = .ok (.iload_n 1, 1) := by decide +kernel
theorem dX2_choose_57 : decode cX2_choose 57 = .ok (.iload_n 2, 1) := by decide +kernel
theorem dX2_choose_58 : decode cX2_choose 58 = .ok (.invokevirtual 62, 3) := by decide +kernel
theorem dX2_choose_61 : decode cX2_choose 61 = .ok (.iastore, 1) := by decide +kernel
theorem dX2_choose_62 : decode cX2_choose 62 = .ok (.iinc 2 1, 3) := by decide +kernel
theorem dX2_choose_65 : decode cX2_choose 65 = .ok (.goto (-29), 3) := by decide +kernel
theorem dX2_choose_68 : decode cX2_choose 68 = .ok (.aload_n 0, 1) := by decide +kernel
theorem dX2_choose_69 : decode cX2_choose 69 = .ok (.invokevirtual 65, 3) := by decide +kernel
theorem dX2_choose_72 : decode cX2_choose 72 = .ok (.ireturn, 1) := by decide +kernel
set_option maxRecDepth 20000 in
theorem ggX2_meantItem_Jx4a65c_size_8abf5 : GoodIn wsX2_meantItem wsJx4a65c_size_8abf5 := goodIn_r _ [9, 10, 49, 50, 51] (by decide +kernel) (by decide +kernel)
set_option maxRecDepth 20000 in
theorem gX2_meantItem_Jx4a65c_size_8abf5 : GoodIn wsX2_meantItem (wsV RX2 49 RJx4a65c yJx4a65c_size_8abf5 wsJx4a65c_size_8abf5) := goodIn_app (goodIn_of _ (by decide +kernel)) ggX2_meantItem_Jx4a65c_size_8abf5
set_option maxRecDepth 20000 in
theorem ggX2_meantItem_Jx4a65c_get_915e3 : GoodIn wsX2_meantItem wsJx4a65c_get_915e3 := goodIn_r _ [14, 10, 15, 16, 17, 18, 19, 20, 21, 22, 23, 24, 25, 8, 26, 27, 49, 50, 51] (by decide +kernel) (by decide +kernel)
set_option maxRecDepth 20000 in
theorem gX2_meantItem_Jx4a65c_get_915e3 : GoodIn wsX2_meantItem (wsV RX2 72 RJx4a65c yJx4a65c_get_915e3 wsJx4a65c_get_915e3) := goodIn_app (goodIn_of _ (by decide +kernel)) ggX2_meantItem_Jx4a65c_get_915e3
set_option maxRecDepth 20000 in
theorem ggX2_meantItem_X10_hasBit : GoodIn wsX2_meantItem wsX10_hasBit := goodIn_r _ [30] (by decide +kernel) (by decide +kernel)
set_option maxRecDepth 20000 in
theorem gX2_meantItem_X10_hasBit_n81 : GoodIn wsX2_meantItem (wsX10_hasBit) := ggX2_meantItem_X10_hasBit
theorem dX2_meantItem_0 : decode cX2_meantItem 0 = .ok (.iconst 0, 1) := by decide +kernel
theorem dX2_meantItem_1 : decode cX2_meantItem 1 = .ok (.istore_n 3, 1) := by decide +kernel
theorem dX2_meantItem_2 : decode cX2_meantItem 2 = .ok (.iload_n 3, 1) := by decide +kernel
theorem dX2_meantItem_3 : decode cX2_meantItem 3 = .ok (.aload_n 0, 1) := by decide +kernel
theorem dX2_meantItem_4 : decode cX2_meantItem 4 = .ok (.getfield 39, 3) := by decide +kernel
theorem dX2_meantItem_7 : decode cX2_meantItem 7 = .ok (.getfield 69, 3) := by decide +kernel
theorem dX2_meantItem_10 : decode cX2_meantItem 10 = .ok (.invokevirtual 49, 3) := by decide +kernel
theorem dX2_meantItem_13 : decode cX2_meantItem 13 = .ok (.if_icmp .ge 47, 3) := by decide +kernel
theorem dX2_meantItem_16 : decode cX2_meantItem 16 = .ok (.aload_n 0, 1) := by decide +kernel
theorem dX2_meantItem_17 : decode cX2_meantItem 17 = .ok (.getfield 39, 3) := by decide +kernel
theorem dX2_meantItem_20 : decode cX2_meantItem 20 = .ok (.getfield 69, 3) := by decide +kernel
theorem dX2_meantItem_23 : decode cX2_meantItem 23 = .ok (.iload_n 3, 1) := by decide +kernel
theorem dX2_meantItem_24 : decode cX2_meantItem 24 = .ok (.invokevirtual 72, 3) := by decide +kernel
theorem dX2_meantItem_27 : decode cX2_meantItem 27 = .ok (.checkcast 76, 3) := by decide +kernel
theorem dX2_meantItem_30 : decode cX2_meantItem 30 = .ok (.getfield 78, 3) := by decide +kernel
theorem dX2_meantItem_33 : decode cX2_meantItem 33 = .ok (.iload_n 2, 1) := by decide +kernel
theorem dX2_meantItem_34 : decode cX2_meantItem 34 = .ok (.iaload, 1) := by decide +kernel
theorem dX2_meantItem_35 : decode cX2_meantItem 35 = .ok (.istore 4, 2) := by decide +kernel
theorem dX2_meantItem_37 : decode cX2_meantItem 37 = .ok (.iload_n 1, 1) := by decide +kernel
theorem dX2_meantItem_38 : decode cX2_meantItem 38 = .ok (.iload_n 3, 1) := by decide +kernel
theorem dX2_meantItem_39 : decode cX2_meantItem 39 = .ok (.invokestatic 81, 3) := by decide +kernel
theorem dX2_meantItem_42 : decode cX2_meantItem 42 = .ok (.ifCond .eq 12, 3) := by decide +kernel
theorem dX2_meantItem_45 : decode cX2_meantItem 45 = .ok (.iload 4, 2) := by decide +kernel
theorem dX2_meantItem_47 : decode cX2_meantItem 47 = .ok (.iconst (-1), 1) := by decide +kernel
theorem dX2_meantItem_48 : decode cX2_meantItem 48 = .ok (.if_icmp .eq 6, 3) := by decide +kernel
theorem dX2_meantItem_51 : decode cX2_meantItem 51 = .ok (.iload 4, 2) := by decide +kernel
theorem dX2_meantItem_53 : decode cX2_meantItem 53 = .ok (.ireturn, 1) := by decide +kernel
theorem dX2_meantItem_54 : decode cX2_meantItem 54 = .ok (.iinc 3 1, 3) := by decide +kernel
theorem dX2_meantItem_57 : decode cX2_meantItem 57 = .ok (.goto (-55), 3) := by decide +kernel
theorem dX2_meantItem_60 : decode cX2_meantItem 60 = .ok (.iload_n 2, 1) := by decide +kernel
theorem dX2_meantItem_61 : decode cX2_meantItem 61 = .ok (.ireturn, 1) := by decide +kernel
set_option maxRecDepth 20000 in
theorem ggX2_meantResource_Jx4a65c_size_8abf5 : GoodIn wsX2_meantResource wsJx4a65c_size_8abf5 := goodIn_r _ [9, 10, 49, 50, 51] (by decide +kernel) (by decide +kernel)
set_option maxRecDepth 20000 in
theorem gX2_meantResource_Jx4a65c_size_8abf5 : GoodIn wsX2_meantResource (wsV RX2 49 RJx4a65c yJx4a65c_size_8abf5 wsJx4a65c_size_8abf5) := goodIn_app (goodIn_of _ (by decide +kernel)) ggX2_meantResource_Jx4a65c_size_8abf5
set_option maxRecDepth 20000 in
theorem ggX2_meantResource_Jx4a65c_get_915e3 : GoodIn wsX2_meantResource wsJx4a65c_get_915e3 := goodIn_r _ [14, 10, 15, 16, 17, 18, 19, 20, 21, 22, 23, 24, 25, 8, 26, 27, 49, 50, 51] (by decide +kernel) (by decide +kernel)
set_option maxRecDepth 20000 in
theorem gX2_meantResource_Jx4a65c_get_915e3 : GoodIn wsX2_meantResource (wsV RX2 72 RJx4a65c yJx4a65c_get_915e3 wsJx4a65c_get_915e3) := goodIn_app (goodIn_of _ (by decide +kernel)) ggX2_meantResource_Jx4a65c_get_915e3
set_option maxRecDepth 20000 in
theorem ggX2_meantResource_X10_hasBit : GoodIn wsX2_meantResource wsX10_hasBit := goodIn_r _ [30] (by decide +kernel) (by decide +kernel)
set_option maxRecDepth 20000 in
theorem gX2_meantResource_X10_hasBit_n81 : GoodIn wsX2_meantResource (wsX10_hasBit) := ggX2_meantResource_X10_hasBit
theorem dX2_meantResource_0 : decode cX2_meantResource 0 = .ok (.iconst 0, 1) := by decide +kernel
theorem dX2_meantResource_1 : decode cX2_meantResource 1 = .ok (.istore_n 3, 1) := by decide +kernel
theorem dX2_meantResource_2 : decode cX2_meantResource 2 = .ok (.iload_n 3, 1) := by decide +kernel
theorem dX2_meantResource_3 : decode cX2_meantResource 3 = .ok (.aload_n 0, 1) := by decide +kernel
theorem dX2_meantResource_4 : decode cX2_meantResource 4 = .ok (.getfield 39, 3) := by decide +kernel
theorem dX2_meantResource_7 : decode cX2_meantResource 7 = .ok (.getfield 69, 3) := by decide +kernel
theorem dX2_meantResource_10 : decode cX2_meantResource 10 = .ok (.invokevirtual 49, 3) := by decide +kernel
theorem dX2_meantResource_13 : decode cX2_meantResource 13 = .ok (.if_icmp .ge 47, 3) := by decide +kernel
theorem dX2_meantResource_16 : decode cX2_meantResource 16 = .ok (.aload_n 0, 1) := by decide +kernel
theorem dX2_meantResource_17 : decode cX2_meantResource 17 = .ok (.getfield 39, 3) := by decide +kernel
theorem dX2_meantResource_20 : decode cX2_meantResource 20 = .ok (.getfield 69, 3) := by decide +kernel
theorem dX2_meantResource_23 : decode cX2_meantResource 23 = .ok (.iload_n 3, 1) := by decide +kernel
theorem dX2_meantResource_24 : decode cX2_meantResource 24 = .ok (.invokevirtual 72, 3) := by decide +kernel
theorem dX2_meantResource_27 : decode cX2_meantResource 27 = .ok (.checkcast 76, 3) := by decide +kernel
theorem dX2_meantResource_30 : decode cX2_meantResource 30 = .ok (.getfield 85, 3) := by decide +kernel
theorem dX2_meantResource_33 : decode cX2_meantResource 33 = .ok (.iload_n 2, 1) := by decide +kernel
theorem dX2_meantResource_34 : decode cX2_meantResource 34 = .ok (.iaload, 1) := by decide +kernel
theorem dX2_meantResource_35 : decode cX2_meantResource 35 = .ok (.istore 4, 2) := by decide +kernel
theorem dX2_meantResource_37 : decode cX2_meantResource 37 = .ok (.iload_n 1, 1) := by decide +kernel
theorem dX2_meantResource_38 : decode cX2_meantResource 38 = .ok (.iload_n 3, 1) := by decide +kernel
theorem dX2_meantResource_39 : decode cX2_meantResource 39 = .ok (.invokestatic 81, 3) := by decide +kernel
theorem dX2_meantResource_42 : decode cX2_meantResource 42 = .ok (.ifCond .eq 12, 3) := by decide +kernel
theorem dX2_meantResource_45 : decode cX2_meantResource 45 = .ok (.iload 4, 2) := by decide +kernel
theorem dX2_meantResource_47 : decode cX2_meantResource 47 = .ok (.iconst (-1), 1) := by decide +kernel
theorem dX2_meantResource_48 : decode cX2_meantResource 48 = .ok (.if_icmp .eq 6, 3) := by decide +kernel
theorem dX2_meantResource_51 : decode cX2_meantResource 51 = .ok (.iload 4, 2) := by decide +kernel
theorem dX2_meantResource_53 : decode cX2_meantResource 53 = .ok (.ireturn, 1) := by decide +kernel
theorem dX2_meantResource_54 : decode cX2_meantResource 54 = .ok (.iinc 3 1, 3) := by decide +kernel
theorem dX2_meantResource_57 : decode cX2_meantResource 57 = .ok (.goto (-55), 3) := by decide +kernel
theorem dX2_meantResource_60 : decode cX2_meantResource 60 = .ok (.iload_n 2, 1) := by decide +kernel
theorem dX2_meantResource_61 : decode cX2_meantResource 61 = .ok (.ireturn, 1) := by decide +kernel
set_option maxRecDepth 20000 in
theorem ggX2_findDepths_J7_fill_53178 : GoodIn wsX2_findDepths wsJ7_fill_53178 := goodIn_r _ [7] (by decide +kernel) (by decide +kernel)
set_option maxRecDepth 20000 in
theorem gX2_findDepths_J7_fill_53178 : GoodIn wsX2_findDepths (va_wsS RX2 88 yJ7_fill_53178 wsJ7_fill_53178) := goodIn_app (goodIn_of _ (by decide +kernel)) ggX2_findDepths_J7_fill_53178
set_option maxRecDepth 20000 in
theorem ggX2_findDepths_Jx4a65c_size_8abf5 : GoodIn wsX2_findDepths wsJx4a65c_size_8abf5 := goodIn_r _ [12, 13, 62, 63, 64] (by decide +kernel) (by decide +kernel)
set_option maxRecDepth 20000 in
theorem gX2_findDepths_Jx4a65c_size_8abf5 : GoodIn wsX2_findDepths (wsV RX2 49 RJx4a65c yJx4a65c_size_8abf5 wsJx4a65c_size_8abf5) := goodIn_app (goodIn_of _ (by decide +kernel)) ggX2_findDepths_Jx4a65c_size_8abf5
set_option maxRecDepth 20000 in
theorem ggX2_findDepths_X2_deepestPart : GoodIn wsX2_findDepths wsX2_deepestPart := goodIn_ca (goodIn_r _ [18, 2, 3, 19, 20, 21, 22, 1, 23, 24, 25, 26, 27, 28, 29, 30, 31, 11, 32, 13, 33, 34, 35, 36, 37, 38, 39, 40, 41, 42, 43, 44, 45, 8, 9, 10, 12, 46, 47, 48, 49, 50, 51, 52, 53, 54, 55, 56, 57, 58, 59, 60, 61, 65, 66, 67, 68, 69, 62, 63, 64] (by decide +kernel) (by decide +kernel)) (goodIn_sub (fun _ h => List.mem_cons_of_mem _ (List.mem_append_right _ h)) (by decide +kernel))
set_option maxRecDepth 20000 in
theorem gX2_findDepths_X2_deepestPart : GoodIn wsX2_findDepths (wsV RX2 94 RX2 yX2_deepestPart wsX2_deepestPart) := goodIn_app (goodIn_of _ (by decide +kernel)) ggX2_findDepths_X2_deepestPart
theorem dX2_findDepths_0 : decode cX2_findDepths 0 = .ok (.aload_n 0, 1) := by decide +kernel
theorem dX2_findDepths_1 : decode cX2_findDepths 1 = .ok (.getfield 18, 3) := by decide +kernel
theorem dX2_findDepths_4 : decode cX2_findDepths 4 = .ok (.iconst 1, 1) := by decide +kernel
theorem dX2_findDepths_5 : decode cX2_findDepths 5 = .ok (.invokestatic 88, 3) := by decide +kernel
theorem dX2_findDepths_8 : decode cX2_findDepths 8 = .ok (.iconst 0, 1) := by decide +kernel
theorem dX2_findDepths_9 : decode cX2_findDepths 9 = .ok (.istore_n 1, 1) := by decide +kernel
theorem dX2_findDepths_10 : decode cX2_findDepths 10 = .ok (.iload_n 1, 1) := by decide +kernel
theorem dX2_findDepths_11 : decode cX2_findDepths 11 = .ok (.iconst 3, 1) := by decide +kernel
theorem dX2_findDepths_12 : decode cX2_findDepths 12 = .ok (.if_icmp .ge 44, 3) := by decide +kernel
theorem dX2_findDepths_15 : decode cX2_findDepths 15 = .ok (.iconst 0, 1) := by decide +kernel
theorem dX2_findDepths_16 : decode cX2_findDepths 16 = .ok (.istore_n 2, 1) := by decide +kernel
theorem dX2_findDepths_17 : decode cX2_findDepths 17 = .ok (.iload_n 2, 1) := by decide +kernel
theorem dX2_findDepths_18 : decode cX2_findDepths 18 = .ok (.aload_n 0, 1) := by decide +kernel
theorem dX2_findDepths_19 : decode cX2_findDepths 19 = .ok (.getfield 39, 3) := by decide +kernel
theorem dX2_findDepths_22 : decode cX2_findDepths 22 = .ok (.getfield 43, 3) := by decide +kernel
theorem dX2_findDepths_25 : decode cX2_findDepths 25 = .ok (.invokevirtual 49, 3) := by decide +kernel
theorem dX2_findDepths_28 : decode cX2_findDepths 28 = .ok (.if_icmp .ge 22, 3) := by decide +kernel
theorem dX2_findDepths_31 : decode cX2_findDepths 31 = .ok (.aload_n 0, 1) := by decide +kernel
theorem dX2_findDepths_32 : decode cX2_findDepths 32 = .ok (.getfield 18, 3) := by decide +kernel
theorem dX2_findDepths_35 : decode cX2_findDepths 35 = .ok (.iload_n 2, 1) := by decide +kernel
theorem dX2_findDepths_36 : decode cX2_findDepths 36 = .ok (.iconst 1, 1) := by decide +kernel
theorem dX2_findDepths_37 : decode cX2_findDepths 37 = .ok (.aload_n 0, 1) := by decide +kernel
theorem dX2_findDepths_38 : decode cX2_findDepths 38 = .ok (.iload_n 2, 1) := by decide +kernel
theorem dX2_findDepths_39 : decode cX2_findDepths 39 = .ok (.invokevirtual 94, 3) := by decide +kernel
theorem dX2_findDepths_42 : decode cX2_findDepths 42 = .ok (.iadd, 1) := by decide +kernel
theorem dX2_findDepths_43 : decode cX2_findDepths 43 = .ok (.iastore, 1) := by decide +kernel
theorem dX2_findDepths_44 : decode cX2_findDepths 44 = .ok (.iinc 2 1, 3) := by decide +kernel
theorem dX2_findDepths_47 : decode cX2_findDepths 47 = .ok (.goto (-30), 3) := by decide +kernel
theorem dX2_findDepths_50 : decode cX2_findDepths 50 = .ok (.iinc 1 1, 3) := by decide +kernel
theorem dX2_findDepths_53 : decode cX2_findDepths 53 = .ok (.goto (-43), 3) := by decide +kernel
theorem dX2_findDepths_56 : decode cX2_findDepths 56 = .ok (.iconst 0, 1) := by decide +kernel
theorem dX2_findDepths_57 : decode cX2_findDepths 57 = .ok (.istore_n 1, 1) := by decide +kernel
theorem dX2_findDepths_58 : decode cX2_findDepths 58 = .ok (.iload_n 1, 1) := by decide +kernel
theorem dX2_findDepths_59 : decode cX2_findDepths 59 = .ok (.aload_n 0, 1) := by decide +kernel
theorem dX2_findDepths_60 : decode cX2_findDepths 60 = .ok (.getfield 39, 3) := by decide +kernel
theorem dX2_findDepths_63 : decode cX2_findDepths 63 = .ok (.getfield 43, 3) := by decide +kernel
theorem dX2_findDepths_66 : decode cX2_findDepths 66 = .ok (.invokevirtual 49, 3) := by decide +kernel
theorem dX2_findDepths_69 : decode cX2_findDepths 69 = .ok (.if_icmp .ge 21, 3) := by decide +kernel
theorem dX2_findDepths_72 : decode cX2_findDepths 72 = .ok (.aload_n 0, 1) := by decide +kernel
theorem dX2_findDepths_73 : decode cX2_findDepths 73 = .ok (.getfield 18, 3) := by decide +kernel
theorem dX2_findDepths_76 : decode cX2_findDepths 76 = .ok (.iload_n 1, 1) := by decide +kernel
theorem dX2_findDepths_77 : decode cX2_findDepths 77 = .ok (.iaload, 1) := by decide +kernel
theorem dX2_findDepths_78 : decode cX2_findDepths 78 = .ok (.iconst 3, 1) := by decide +kernel
theorem dX2_findDepths_79 : decode cX2_findDepths 79 = .ok (.if_icmp .le 5, 3) := by decide +kernel
theorem dX2_findDepths_82 : decode cX2_findDepths 82 = .ok (.iconst 0, 1) := by decide +kernel
theorem dX2_findDepths_83 : decode cX2_findDepths 83 = .ok (.ireturn, 1) := by decide +kernel
theorem dX2_findDepths_84 : decode cX2_findDepths 84 = .ok (.iinc 1 1, 3) := by decide +kernel
theorem dX2_findDepths_87 : decode cX2_findDepths 87 = .ok (.goto (-29), 3) := by decide +kernel
theorem dX2_findDepths_90 : decode cX2_findDepths 90 = .ok (.iconst 1, 1) := by decide +kernel
theorem dX2_findDepths_91 : decode cX2_findDepths 91 = .ok (.ireturn, 1) := by decide +kernel
set_option maxRecDepth 20000 in
theorem ggX2_deepestPart_Jx4a65c_get_915e3 : GoodIn wsX2_deepestPart wsJx4a65c_get_915e3 := goodIn_r _ [18, 19, 20, 21, 22, 23, 24, 25, 26, 27, 28, 29, 30, 17, 31, 32, 58, 59, 60] (by decide +kernel) (by decide +kernel)
set_option maxRecDepth 20000 in
theorem gX2_deepestPart_Jx4a65c_get_915e3 : GoodIn wsX2_deepestPart (wsV RX2 72 RJx4a65c yJx4a65c_get_915e3 wsJx4a65c_get_915e3) := goodIn_app (goodIn_of _ (by decide +kernel)) ggX2_deepestPart_Jx4a65c_get_915e3
set_option maxRecDepth 20000 in
theorem ggX2_deepestPart_Jx4a65c_size_8abf5 : GoodIn wsX2_deepestPart wsJx4a65c_size_8abf5 := goodIn_r _ [36, 19, 58, 59, 60] (by decide +kernel) (by decide +kernel)
set_option maxRecDepth 20000 in
theorem gX2_deepestPart_Jx4a65c_size_8abf5 : GoodIn wsX2_deepestPart (wsV RX2 49 RJx4a65c yJx4a65c_size_8abf5 wsJx4a65c_size_8abf5) := goodIn_app (goodIn_of _ (by decide +kernel)) ggX2_deepestPart_Jx4a65c_size_8abf5
theorem dX2_deepestPart_0 : decode cX2_deepestPart 0 = .ok (.aload_n 0, 1) := by decide +kernel
theorem dX2_deepestPart_1 : decode cX2_deepestPart 1 = .ok (.getfield 39, 3) := by decide +kernel
theorem dX2_deepestPart_4 : decode cX2_deepestPart 4 = .ok (.getfield 43, 3) := by decide +kernel
theorem dX2_deepestPart_7 : decode cX2_deepestPart 7 = .ok (.iload_n 1, 1) := by decide +kernel
theorem dX2_deepestPart_8 : decode cX2_deepestPart 8 = .ok (.invokevirtual 72, 3) := by decide +kernel
theorem dX2_deepestPart_11 : decode cX2_deepestPart 11 = .ok (.checkcast 98, 3) := by decide +kernel
theorem dX2_deepestPart_14 : decode cX2_deepestPart 14 = .ok (.getfield 100, 3) := by decide +kernel
theorem dX2_deepestPart_17 : decode cX2_deepestPart 17 = .ok (.astore_n 2, 1) := by decide +kernel
theorem dX2_deepestPart_18 : decode cX2_deepestPart 18 = .ok (.iconst 0, 1) := by decide +kernel
theorem dX2_deepestPart_19 : decode cX2_deepestPart 19 = .ok (.istore_n 3, 1) := by decide +kernel
theorem dX2_deepestPart_20 : decode cX2_deepestPart 20 = .ok (.iconst 0, 1) := by decide +kernel
theorem dX2_deepestPart_21 : decode cX2_deepestPart 21 = .ok (.istore 4, 2) := by decide +kernel
theorem dX2_deepestPart_23 : decode cX2_deepestPart 23 = .ok (.iload 4, 2) := by decide +kernel
theorem dX2_deepestPart_25 : decode cX2_deepestPart 25 = .ok (.aload_n 2, 1) := by decide +kernel
theorem dX2_deepestPart_26 : decode cX2_deepestPart 26 = .ok (.invokevirtual 49, 3) := by decide +kernel
theorem dX2_deepestPart_29 : decode cX2_deepestPart 29 = .ok (.if_icmp .ge 48, 3) := by decide +kernel
theorem dX2_deepestPart_32 : decode cX2_deepestPart 32 = .ok (.aload_n 2, 1) := by decide +kernel
theorem dX2_deepestPart_33 : decode cX2_deepestPart 33 = .ok (.iload 4, 2) := by decide +kernel
theorem dX2_deepestPart_35 : decode cX2_deepestPart 35 = .ok (.invokevirtual 72, 3) := by decide +kernel
theorem dX2_deepestPart_38 : decode cX2_deepestPart 38 = .ok (.checkcast 103, 3) := by decide +kernel
theorem dX2_deepestPart_41 : decode cX2_deepestPart 41 = .ok (.astore 5, 2) := by decide +kernel
theorem dX2_deepestPart_43 : decode cX2_deepestPart 43 = .ok (.aload 5, 2) := by decide +kernel
theorem dX2_deepestPart_45 : decode cX2_deepestPart 45 = .ok (.getfield 105, 3) := by decide +kernel
theorem dX2_deepestPart_48 : decode cX2_deepestPart 48 = .ok (.ifCond .ne 23, 3) := by decide +kernel
theorem dX2_deepestPart_51 : decode cX2_deepestPart 51 = .ok (.iload_n 3, 1) := by decide +kernel
theorem dX2_deepestPart_52 : decode cX2_deepestPart 52 = .ok (.aload_n 0, 1) := by decide +kernel
theorem dX2_deepestPart_53 : decode cX2_deepestPart 53 = .ok (.getfield 18, 3) := by decide +kernel
theorem dX2_deepestPart_56 : decode cX2_deepestPart 56 = .ok (.aload_n 0, 1) := by decide +kernel
theorem dX2_deepestPart_57 : decode cX2_deepestPart 57 = .ok (.getfield 9, 3) := by decide +kernel
theorem dX2_deepestPart_60 : decode cX2_deepestPart 60 = .ok (.aload 5, 2) := by decide +kernel
theorem dX2_deepestPart_62 : decode cX2_deepestPart 62 = .ok (.getfield 109, 3) := by decide +kernel
theorem dX2_deepestPart_65 : decode cX2_deepestPart 65 = .ok (.iaload, 1) := by decide +kernel
theorem dX2_deepestPart_66 : decode cX2_deepestPart 66 = .ok (.iaload, 1) := by decide +kernel
theorem dX2_deepestPart_67 : decode cX2_deepestPart 67 = .ok (.invokestatic 112, 3) := by decide +kernel
theorem dX2_deepestPart_70 : decode cX2_deepestPart 70 = .ok (.istore_n 3, 1) := by decide +kernel
theorem dX2_deepestPart_71 : decode cX2_deepestPart 71 = .ok (.iinc 4 1, 3) := by decide +kernel
theorem dX2_deepestPart_74 : decode cX2_deepestPart 74 = .ok (.goto (-51), 3) := by decide +kernel
theorem dX2_deepestPart_77 : decode cX2_deepestPart 77 = .ok (.iload_n 3, 1) := by decide +kernel
theorem dX2_deepestPart_78 : decode cX2_deepestPart 78 = .ok (.ireturn, 1) := by decide +kernel
set_option maxRecDepth 20000 in
theorem ggX2_workOutCosts_X2_findOwnNeeds : GoodIn wsX2_workOutCosts wsX2_findOwnNeeds := goodIn_ca (goodIn_r _ [5, 6, 7, 8, 9, 10, 11, 12, 13, 14, 15, 16, 17, 18, 19, 20, 21, 22, 23, 24, 25, 26, 27, 28, 29, 30, 31, 32, 33, 34, 35, 36, 37, 38, 39, 40, 41, 4, 42, 43, 44, 45, 46, 47, 48, 49, 50, 51, 120, 121, 122, 123, 124, 125, 126, 127, 128, 129, 130, 131, 132, 133, 134, 135, 136, 137, 138, 139, 140, 141, 142, 143, 144, 145, 146] (by decide +kernel) (by decide +kernel)) (goodIn_sub (fun _ h => List.mem_cons_of_mem _ (List.mem_append_left _ (List.mem_append_right _ h))) (by decide +kernel))
set_option maxRecDepth 20000 in
theorem gX2_workOutCosts_X2_findOwnNeeds : GoodIn wsX2_workOutCosts (wsV RX2 117 RX2 yX2_findOwnNeeds wsX2_findOwnNeeds) := goodIn_app (goodIn_of _ (by decide +kernel)) ggX2_workOutCosts_X2_findOwnNeeds
set_option maxRecDepth 20000 in
theorem ggX2_workOutCosts_X2_findNeeds : GoodIn wsX2_workOutCosts wsX2_findNeeds := goodIn_ca (goodIn_r _ [55, 6, 7, 56, 12, 13, 14, 15, 16, 17, 57, 58, 59, 4, 60, 61, 8, 9, 10, 11, 43, 62, 45, 46, 18, 19, 20, 21, 63, 64, 65, 22, 23, 24, 25, 26, 27, 28, 29, 30, 31, 32, 33, 34, 35, 36, 37, 38, 120, 121, 122, 123, 124, 125, 126, 127, 128, 129, 130, 131, 132, 133, 134, 135, 138, 139, 140, 136, 137, 141, 142, 143] (by decide +kernel) (by decide +kernel)) (goodIn_sub (fun _ h => List.mem_cons_of_mem _ (List.mem_append_left _ (List.mem_append_right _ h))) (by decide +kernel))
set_option maxRecDepth 20000 in
theorem gX2_workOutCosts_X2_findNeeds : GoodIn wsX2_workOutCosts (wsV RX2 120 RX2 yX2_findNeeds wsX2_findNeeds) := goodIn_app (goodIn_of _ (by decide +kernel)) ggX2_workOutCosts_X2_findNeeds
set_option maxRecDepth 20000 in
theorem ggX2_workOutCosts_X2_findItemUnits : GoodIn wsX2_workOutCosts wsX2_findItemUnits := goodIn_ca (goodIn_r _ [69, 70, 6, 71, 72, 62, 73, 74, 7, 56, 18, 19, 20, 21, 12, 13, 14, 15, 16, 17, 22, 23, 24, 25, 26, 27, 28, 29, 30, 31, 32, 33, 34, 35, 36, 37, 38, 75, 76, 77, 4, 78, 9, 10, 11, 43, 45, 46, 120, 121, 122, 123, 124, 125, 126, 127, 128, 129, 130, 131, 132, 133, 134, 135, 147, 148, 138, 139, 140, 136, 137, 141, 142, 143] (by decide +kernel) (by decide +kernel)) (goodIn_sub (fun _ h => List.mem_cons_of_mem _ (List.mem_append_left _ (List.mem_append_right _ h))) (by decide +kernel))
set_option maxRecDepth 20000 in
theorem gX2_workOutCosts_X2_findItemUnits : GoodIn wsX2_workOutCosts (wsV RX2 123 RX2 yX2_findItemUnits wsX2_findItemUnits) := goodIn_app (goodIn_of _ (by decide +kernel)) ggX2_workOutCosts_X2_findItemUnits
set_option maxRecDepth 20000 in
theorem ggX2_workOutCosts_X2_findAmounts : GoodIn wsX2_workOutCosts wsX2_findAmounts := goodIn_ca (goodIn_r _ [82, 83, 6, 71, 72, 61, 62, 73, 74, 18, 19, 20, 21, 12, 13, 14, 15, 16, 17, 22, 23, 24, 25, 26, 27, 28, 29, 30, 31, 32, 33, 34, 35, 36, 37, 38, 63, 64, 4, 65, 120, 121, 122, 123, 124, 125, 126, 127, 128, 129, 130, 131, 132, 133, 134, 135, 147, 148, 138, 139, 140] (by decide +kernel) (by decide +kernel)) (goodIn_sub (fun _ h => List.mem_cons_of_mem _ (List.mem_append_left _ (List.mem_append_right _ h))) (by decide +kernel))
set_option maxRecDepth 20000 in
theorem gX2_workOutCosts_X2_findAmounts : GoodIn wsX2_workOutCosts (wsV RX2 126 RX2 yX2_findAmounts wsX2_findAmounts) := goodIn_app (goodIn_of _ (by decide +kernel)) ggX2_workOutCosts_X2_findAmounts
set_option maxRecDepth 20000 in
theorem ggX2_workOutCosts_X2_findSurcharges : GoodIn wsX2_workOutCosts wsX2_findSurcharges := goodIn_ca (goodIn_ca (goodIn_r _ [87, 6, 88, 89, 90, 91, 92, 93, 12, 13, 14, 15, 16, 17, 22, 23, 24, 25, 26, 27, 28, 29, 30, 31, 32, 33, 34, 35, 36, 37, 38, 94, 95, 96, 4, 97, 98, 99, 100, 101, 102, 103, 104, 105, 106, 107, 83, 108, 109, 110, 111, 112, 113, 114, 115, 116, 117, 118, 119, 120, 121, 122, 123, 124, 125, 126, 127, 128, 129, 130, 131, 132, 133, 134, 135, 149, 150, 138, 139, 140, 151, 152, 153, 154] (by decide +kernel) (by decide +kernel)) (goodIn_sub (fun _ h => List.mem_cons_of_mem _ (List.mem_append_left _ (List.mem_append_right _ h))) (by decide +kernel))) (goodIn_sub (fun _ h => List.mem_cons_of_mem _ (List.mem_append_right _ h)) (by decide +kernel))
set_option maxRecDepth 20000 in
theorem gX2_workOutCosts_X2_findSurcharges : GoodIn wsX2_workOutCosts (wsV RX2 129 RX2 yX2_findSurcharges wsX2_findSurcharges) := goodIn_app (goodIn_of _ (by decide +kernel)) ggX2_workOutCosts_X2_findSurcharges
theorem dX2_workOutCosts_0 : decode cX2_workOutCosts 0 = .ok (.aload_n 0, 1) := by decide +kernel
theorem dX2_workOutCosts_1 : decode cX2_workOutCosts 1 = .ok (.invokevirtual 117, 3) := by decide +kernel
theorem dX2_workOutCosts_4 : decode cX2_workOutCosts 4 = .ok (.aload_n 0, 1) := by decide +kernel
theorem dX2_workOutCosts_5 : decode cX2_workOutCosts 5 = .ok (.invokevirtual 120, 3) := by decide +kernel
theorem dX2_workOutCosts_8 : decode cX2_workOutCosts 8 = .ok (.aload_n 0, 1) := by decide +kernel
theorem dX2_workOutCosts_9 : decode cX2_workOutCosts 9 = .ok (.invokevirtual 123, 3) := by decide +kernel
theorem dX2_workOutCosts_12 : decode cX2_workOutCosts 12 = .ok (.aload_n 0, 1) := by decide +kernel
theorem dX2_workOutCosts_13 : decode cX2_workOutCosts 13 = .ok (.invokevirtual 126, 3) := by decide +kernel
theorem dX2_workOutCosts_16 : decode cX2_workOutCosts 16 = .ok (.aload_n 0, 1) := by decide +kernel
theorem dX2_workOutCosts_17 : decode cX2_workOutCosts 17 = .ok (.invokevirtual 129, 3) := by decide +kernel
theorem dX2_workOutCosts_20 : decode cX2_workOutCosts 20 = .ok (.return_, 1) := by decide +kernel
set_option maxRecDepth 20000 in
theorem ggX2_findOwnNeeds_Jx4a65c_size_8abf5 : GoodIn wsX2_findOwnNeeds wsJx4a65c_size_8abf5 := goodIn_r _ [11, 12, 66, 67, 68] (by decide +kernel) (by decide +kernel)
set_option maxRecDepth 20000 in
theorem gX2_findOwnNeeds_Jx4a65c_size_8abf5 : GoodIn wsX2_findOwnNeeds (wsV RX2 49 RJx4a65c yJx4a65c_size_8abf5 wsJx4a65c_size_8abf5) := goodIn_app (goodIn_of _ (by decide +kernel)) ggX2_findOwnNeeds_Jx4a65c_size_8abf5
set_option maxRecDepth 20000 in
theorem ggX2_findOwnNeeds_J7_fill_d0a16 : GoodIn wsX2_findOwnNeeds wsJ7_fill_d0a16 := goodIn_r _ [16] (by decide +kernel) (by decide +kernel)
set_option maxRecDepth 20000 in
theorem gX2_findOwnNeeds_J7_fill_d0a16 : GoodIn wsX2_findOwnNeeds (va_wsS RX2 132 yJ7_fill_d0a16 wsJ7_fill_d0a16) := goodIn_app (goodIn_of _ (by decide +kernel)) ggX2_findOwnNeeds_J7_fill_d0a16
set_option maxRecDepth 20000 in
theorem ggX2_findOwnNeeds_Jx4a65c_get_915e3 : GoodIn wsX2_findOwnNeeds wsJx4a65c_get_915e3 := goodIn_r _ [20, 12, 21, 22, 23, 24, 25, 26, 27, 28, 29, 30, 31, 10, 32, 33, 66, 67, 68] (by decide +kernel) (by decide +kernel)
set_option maxRecDepth 20000 in
theorem gX2_findOwnNeeds_Jx4a65c_get_915e3 : GoodIn wsX2_findOwnNeeds (wsV RX2 72 RJx4a65c yJx4a65c_get_915e3 wsJx4a65c_get_915e3) := goodIn_app (goodIn_of _ (by decide +kernel)) ggX2_findOwnNeeds_Jx4a65c_get_915e3
set_option maxRecDepth 20000 in
theorem ggX2_findOwnNeeds_X2_addOwnNeed : GoodIn wsX2_findOwnNeeds wsX2_addOwnNeed := goodIn_ca (goodIn_r _ [38, 39, 40, 41, 42, 1, 43, 44, 45, 46, 47, 17, 18, 19, 10, 20, 12, 21, 22, 23, 24, 25, 26, 27, 28, 29, 30, 31, 32, 33, 69, 70, 71, 48, 49, 50, 51, 52, 53, 54, 55, 56, 57, 58, 59, 60, 61, 62, 63, 72, 73, 74, 66, 67, 68] (by decide +kernel) (by decide +kernel)) (goodIn_sub (fun _ h => List.mem_cons_of_mem _ (List.mem_append_right _ h)) (by decide +kernel))
set_option maxRecDepth 20000 in
theorem gX2_findOwnNeeds_X2_addOwnNeed : GoodIn wsX2_findOwnNeeds (wsV RX2 135 RX2 yX2_addOwnNeed wsX2_addOwnNeed) := goodIn_app (goodIn_of _ (by decide +kernel)) ggX2_findOwnNeeds_X2_addOwnNeed
theorem dX2_findOwnNeeds_0 : decode cX2_findOwnNeeds 0 = .ok (.iconst 0, 1) := by decide +kernel
theorem dX2_findOwnNeeds_1 : decode cX2_findOwnNeeds 1 = .ok (.istore_n 1, 1) := by decide +kernel
theorem dX2_findOwnNeeds_2 : decode cX2_findOwnNeeds 2 = .ok (.iload_n 1, 1) := by decide +kernel
theorem dX2_findOwnNeeds_3 : decode cX2_findOwnNeeds 3 = .ok (.aload_n 0, 1) := by decide +kernel
theorem dX2_findOwnNeeds_4 : decode cX2_findOwnNeeds 4 = .ok (.getfield 39, 3) := by decide +kernel
theorem dX2_findOwnNeeds_7 : decode cX2_findOwnNeeds 7 = .ok (.getfield 43, 3) := by decide +kernel
theorem dX2_findOwnNeeds_10 : decode cX2_findOwnNeeds 10 = .ok (.invokevirtual 49, 3) := by decide +kernel
theorem dX2_findOwnNeeds_13 : decode cX2_findOwnNeeds 13 = .ok (.if_icmp .ge 71, 3) := by decide +kernel
theorem dX2_findOwnNeeds_16 : decode cX2_findOwnNeeds 16 = .ok (.aload_n 0, 1) := by decide +kernel
theorem dX2_findOwnNeeds_17 : decode cX2_findOwnNeeds 17 = .ok (.getfield 23, 3) := by decide +kernel
theorem dX2_findOwnNeeds_20 : decode cX2_findOwnNeeds 20 = .ok (.iload_n 1, 1) := by decide +kernel
theorem dX2_findOwnNeeds_21 : decode cX2_findOwnNeeds 21 = .ok (.aaload, 1) := by decide +kernel
theorem dX2_findOwnNeeds_22 : decode cX2_findOwnNeeds 22 = .ok (.astore_n 2, 1) := by decide +kernel
theorem dX2_findOwnNeeds_23 : decode cX2_findOwnNeeds 23 = .ok (.aload_n 2, 1) := by decide +kernel
theorem dX2_findOwnNeeds_24 : decode cX2_findOwnNeeds 24 = .ok (.lconst 0, 1) := by decide +kernel
theorem dX2_findOwnNeeds_25 : decode cX2_findOwnNeeds 25 = .ok (.invokestatic 132, 3) := by decide +kernel
theorem dX2_findOwnNeeds_28 : decode cX2_findOwnNeeds 28 = .ok (.aload_n 0, 1) := by decide +kernel
theorem dX2_findOwnNeeds_29 : decode cX2_findOwnNeeds 29 = .ok (.getfield 39, 3) := by decide +kernel
theorem dX2_findOwnNeeds_32 : decode cX2_findOwnNeeds 32 = .ok (.getfield 43, 3) := by decide +kernel
theorem dX2_findOwnNeeds_35 : decode cX2_findOwnNeeds 35 = .ok (.iload_n 1, 1) := by decide +kernel
theorem dX2_findOwnNeeds_36 : decode cX2_findOwnNeeds 36 = .ok (.invokevirtual 72, 3) := by decide +kernel
theorem dX2_findOwnNeeds_39 : decode cX2_findOwnNeeds 39 = .ok (.checkcast 98, 3) := by decide +kernel
theorem dX2_findOwnNeeds_42 : decode cX2_findOwnNeeds 42 = .ok (.getfield 100, 3) := by decide +kernel
theorem dX2_findOwnNeeds_45 : decode cX2_findOwnNeeds 45 = .ok (.astore_n 3, 1) := by decide +kernel
theorem dX2_findOwnNeeds_46 : decode cX2_findOwnNeeds 46 = .ok (.iconst 0, 1) := by decide +kernel
theorem dX2_findOwnNeeds_47 : decode cX2_findOwnNeeds 47 = .ok (.istore 4, 2) := by decide +kernel
theorem dX2_findOwnNeeds_49 : decode cX2_findOwnNeeds 49 = .ok (.iload 4, 2) := by decide +kernel
theorem dX2_findOwnNeeds_51 : decode cX2_findOwnNeeds 51 = .ok (.aload_n 3, 1) := by decide +kernel
theorem dX2_findOwnNeeds_52 : decode cX2_findOwnNeeds 52 = .ok (.invokevirtual 49, 3) := by decide +kernel
theorem dX2_findOwnNeeds_55 : decode cX2_findOwnNeeds 55 = .ok (.if_icmp .ge 23, 3) := by decide +kernel
theorem dX2_findOwnNeeds_58 : decode cX2_findOwnNeeds 58 = .ok (.aload_n 0, 1) := by decide +kernel
theorem dX2_findOwnNeeds_59 : decode cX2_findOwnNeeds 59 = .ok (.aload_n 2, 1) := by decide +kernel
theorem dX2_findOwnNeeds_60 : decode cX2_findOwnNeeds 60 = .ok (.aload_n 3, 1) := by decide +kernel
theorem dX2_findOwnNeeds_61 : decode cX2_findOwnNeeds 61 = .ok (.iload 4, 2) := by decide +kernel
theorem dX2_findOwnNeeds_63 : decode cX2_findOwnNeeds 63 = .ok (.invokevirtual 72, 3) := by decide +kernel
theorem dX2_findOwnNeeds_66 : decode cX2_findOwnNeeds 66 = .ok (.checkcast 103, 3) := by decide +kernel
theorem dX2_findOwnNeeds_69 : decode cX2_findOwnNeeds 69 = .ok (.invokevirtual 135, 3) := by decide +kernel
theorem dX2_findOwnNeeds_72 : decode cX2_findOwnNeeds 72 = .ok (.iinc 4 1, 3) := by decide +kernel
theorem dX2_findOwnNeeds_75 : decode cX2_findOwnNeeds 75 = .ok (.goto (-26), 3) := by decide +kernel
theorem dX2_findOwnNeeds_78 : decode cX2_findOwnNeeds 78 = .ok (.iinc 1 1, 3) := by decide +kernel
theorem dX2_findOwnNeeds_81 : decode cX2_findOwnNeeds 81 = .ok (.goto (-79), 3) := by decide +kernel
theorem dX2_findOwnNeeds_84 : decode cX2_findOwnNeeds 84 = .ok (.return_, 1) := by decide +kernel
set_option maxRecDepth 20000 in
theorem ggX2_addOwnNeed_Jx4a65c_get_915e3 : GoodIn wsX2_addOwnNeed wsJx4a65c_get_915e3 := goodIn_r _ [15, 16, 17, 18, 19, 20, 21, 22, 23, 24, 25, 26, 27, 14, 28, 29, 52, 53, 54] (by decide +kernel) (by decide +kernel)
set_option maxRecDepth 20000 in
theorem gX2_addOwnNeed_Jx4a65c_get_915e3 : GoodIn wsX2_addOwnNeed (wsV RX2 72 RJx4a65c yJx4a65c_get_915e3 wsJx4a65c_get_915e3) := goodIn_app (goodIn_of _ (by decide +kernel)) ggX2_addOwnNeed_Jx4a65c_get_915e3
theorem dX2_addOwnNeed_0 : decode cX2_addOwnNeed 0 = .ok (.aload_n 2, 1) := by decide +kernel
theorem dX2_addOwnNeed_1 : decode cX2_addOwnNeed 1 = .ok (.getfield 105, 3) := by decide +kernel
theorem dX2_addOwnNeed_4 : decode cX2_addOwnNeed 4 = .ok (.iconst 1, 1) := by decide +kernel
theorem dX2_addOwnNeed_5 : decode cX2_addOwnNeed 5 = .ok (.if_icmp .ne 25, 3) := by decide +kernel
theorem dX2_addOwnNeed_8 : decode cX2_addOwnNeed 8 = .ok (.aload_n 1, 1) := by decide +kernel
theorem dX2_addOwnNeed_9 : decode cX2_addOwnNeed 9 = .ok (.aload_n 0, 1) := by decide +kernel
theorem dX2_addOwnNeed_10 : decode cX2_addOwnNeed 10 = .ok (.getfield 15, 3) := by decide +kernel
theorem dX2_addOwnNeed_13 : decode cX2_addOwnNeed 13 = .ok (.aload_n 2, 1) := by decide +kernel
theorem dX2_addOwnNeed_14 : decode cX2_addOwnNeed 14 = .ok (.getfield 109, 3) := by decide +kernel
theorem dX2_addOwnNeed_17 : decode cX2_addOwnNeed 17 = .ok (.iaload, 1) := by decide +kernel
theorem dX2_addOwnNeed_18 : decode cX2_addOwnNeed 18 = .ok (.dup2, 1) := by decide +kernel
theorem dX2_addOwnNeed_19 : decode cX2_addOwnNeed 19 = .ok (.laload, 1) := by decide +kernel
theorem dX2_addOwnNeed_20 : decode cX2_addOwnNeed 20 = .ok (.aload_n 2, 1) := by decide +kernel
theorem dX2_addOwnNeed_21 : decode cX2_addOwnNeed 21 = .ok (.getfield 139, 3) := by decide +kernel
theorem dX2_addOwnNeed_24 : decode cX2_addOwnNeed 24 = .ok (.i2l, 1) := by decide +kernel
theorem dX2_addOwnNeed_25 : decode cX2_addOwnNeed 25 = .ok (.ladd, 1) := by decide +kernel
theorem dX2_addOwnNeed_26 : decode cX2_addOwnNeed 26 = .ok (.lastore, 1) := by decide +kernel
theorem dX2_addOwnNeed_27 : decode cX2_addOwnNeed 27 = .ok (.goto 77, 3) := by decide +kernel
theorem dX2_addOwnNeed_30 : decode cX2_addOwnNeed 30 = .ok (.aload_n 2, 1) := by decide +kernel
theorem dX2_addOwnNeed_31 : decode cX2_addOwnNeed 31 = .ok (.getfield 105, 3) := by decide +kernel
theorem dX2_addOwnNeed_34 : decode cX2_addOwnNeed 34 = .ok (.iconst 2, 1) := by decide +kernel
theorem dX2_addOwnNeed_35 : decode cX2_addOwnNeed 35 = .ok (.if_icmp .ne 69, 3) := by decide +kernel
theorem dX2_addOwnNeed_38 : decode cX2_addOwnNeed 38 = .ok (.aload_n 0, 1) := by decide +kernel
theorem dX2_addOwnNeed_39 : decode cX2_addOwnNeed 39 = .ok (.getfield 39, 3) := by decide +kernel
theorem dX2_addOwnNeed_42 : decode cX2_addOwnNeed 42 = .ok (.getfield 142, 3) := by decide +kernel
theorem dX2_addOwnNeed_45 : decode cX2_addOwnNeed 45 = .ok (.aload_n 2, 1) := by decide +kernel
theorem dX2_addOwnNeed_46 : decode cX2_addOwnNeed 46 = .ok (.getfield 109, 3) := by decide +kernel
theorem dX2_addOwnNeed_49 : decode cX2_addOwnNeed 49 = .ok (.invokevirtual 72, 3) := by decide +kernel
theorem dX2_addOwnNeed_52 : decode cX2_addOwnNeed 52 = .ok (.checkcast 145, 3) := by decide +kernel
theorem dX2_addOwnNeed_55 : decode cX2_addOwnNeed 55 = .ok (.astore_n 3, 1) := by decide +kernel
theorem dX2_addOwnNeed_56 : decode cX2_addOwnNeed 56 = .ok (.iconst 0, 1) := by decide +kernel
theorem dX2_addOwnNeed_57 : decode cX2_addOwnNeed 57 = .ok (.istore 4, 2) := by decide +kernel
theorem dX2_addOwnNeed_59 : decode cX2_addOwnNeed 59 = .ok (.iload 4, 2) := by decide +kernel
theorem dX2_addOwnNeed_61 : decode cX2_addOwnNeed 61 = .ok (.aload_n 3, 1) := by decide +kernel
theorem dX2_addOwnNeed_62 : decode cX2_addOwnNeed 62 = .ok (.getfield 147, 3) := by decide +kernel
theorem dX2_addOwnNeed_65 : decode cX2_addOwnNeed 65 = .ok (.if_icmp .ge 39, 3) := by decide +kernel
theorem dX2_addOwnNeed_68 : decode cX2_addOwnNeed 68 = .ok (.aload_n 1, 1) := by decide +kernel
theorem dX2_addOwnNeed_69 : decode cX2_addOwnNeed 69 = .ok (.aload_n 0, 1) := by decide +kernel
theorem dX2_addOwnNeed_70 : decode cX2_addOwnNeed 70 = .ok (.getfield 15, 3) := by decide +kernel
theorem dX2_addOwnNeed_73 : decode cX2_addOwnNeed 73 = .ok (.aload_n 3, 1) := by decide +kernel
theorem dX2_addOwnNeed_74 : decode cX2_addOwnNeed 74 = .ok (.getfield 149, 3) := by decide +kernel
theorem dX2_addOwnNeed_77 : decode cX2_addOwnNeed 77 = .ok (.iload 4, 2) := by decide +kernel
theorem dX2_addOwnNeed_79 : decode cX2_addOwnNeed 79 = .ok (.iaload, 1) := by decide +kernel
theorem dX2_addOwnNeed_80 : decode cX2_addOwnNeed 80 = .ok (.iaload, 1) := by decide +kernel
theorem dX2_addOwnNeed_81 : decode cX2_addOwnNeed 81 = .ok (.dup2, 1) := by decide +kernel
theorem dX2_addOwnNeed_82 : decode cX2_addOwnNeed 82 = .ok (.laload, 1) := by decide +kernel
theorem dX2_addOwnNeed_83 : decode cX2_addOwnNeed 83 = .ok (.aload_n 2, 1) := by decide +kernel
theorem dX2_addOwnNeed_84 : decode cX2_addOwnNeed 84 = .ok (.getfield 139, 3) := by decide +kernel
theorem dX2_addOwnNeed_87 : decode cX2_addOwnNeed 87 = .ok (.aload_n 3, 1) := by decide +kernel
theorem dX2_addOwnNeed_88 : decode cX2_addOwnNeed 88 = .ok (.getfield 152, 3) := by decide +kernel
theorem dX2_addOwnNeed_91 : decode cX2_addOwnNeed 91 = .ok (.iload 4, 2) := by decide +kernel
theorem dX2_addOwnNeed_93 : decode cX2_addOwnNeed 93 = .ok (.iaload, 1) := by decide +kernel
theorem dX2_addOwnNeed_94 : decode cX2_addOwnNeed 94 = .ok (.imul, 1) := by decide +kernel
theorem dX2_addOwnNeed_95 : decode cX2_addOwnNeed 95 = .ok (.i2l, 1) := by decide +kernel
theorem dX2_addOwnNeed_96 : decode cX2_addOwnNeed 96 = .ok (.ladd, 1) := by decide +kernel
theorem dX2_addOwnNeed_97 : decode cX2_addOwnNeed 97 = .ok (.lastore, 1) := by decide +kernel
theorem dX2_addOwnNeed_98 : decode cX2_addOwnNeed 98 = .ok (.iinc 4 1, 3) := by decide +kernel
theorem dX2_addOwnNeed_101 : decode cX2_addOwnNeed 101 = .ok (.goto (-42), 3) := by decide +kernel
theorem dX2_addOwnNeed_104 : decode cX2_addOwnNeed 104 = .ok (.return_, 1) := by decide +kernel
set_option maxRecDepth 20000 in
theorem ggX2_findNeeds_Jx4a65c_size_8abf5 : GoodIn wsX2_findNeeds wsJx4a65c_size_8abf5 := goodIn_r _ [8, 9, 64, 65, 66] (by decide +kernel) (by decide +kernel)
set_option maxRecDepth 20000 in
theorem gX2_findNeeds_Jx4a65c_size_8abf5 : GoodIn wsX2_findNeeds (wsV RX2 49 RJx4a65c yJx4a65c_size_8abf5 wsJx4a65c_size_8abf5) := goodIn_app (goodIn_of _ (by decide +kernel)) ggX2_findNeeds_Jx4a65c_size_8abf5
set_option maxRecDepth 20000 in
theorem ggX2_findNeeds_X2_findNeedsOf : GoodIn wsX2_findNeeds wsX2_findNeedsOf := goodIn_ca (goodIn_r _ [14, 15, 16, 1, 2, 17, 18, 19, 20, 21, 22, 23, 24, 25, 26, 27, 28, 29, 13, 30, 31, 32, 33, 7, 34, 9, 35, 36, 37, 38, 39, 40, 41, 42, 43, 44, 45, 46, 47, 4, 5, 6, 8, 48, 49, 50, 51, 52, 53, 54, 55, 56, 57, 58, 59, 60, 61, 62, 63, 67, 68, 69, 70, 71, 64, 65, 66] (by decide +kernel) (by decide +kernel)) (goodIn_sub (fun _ h => List.mem_cons_of_mem _ (List.mem_append_right _ h)) (by decide +kernel))
set_option maxRecDepth 20000 in
theorem gX2_findNeeds_X2_findNeedsOf : GoodIn wsX2_findNeeds (wsV RX2 155 RX2 yX2_findNeedsOf wsX2_findNeedsOf) := goodIn_app (goodIn_of _ (by decide +kernel)) ggX2_findNeeds_X2_findNeedsOf
theorem dX2_findNeeds_0 : decode cX2_findNeeds 0 = .ok (.iconst 1, 1) := by decide +kernel
theorem dX2_findNeeds_1 : decode cX2_findNeeds 1 = .ok (.istore_n 1, 1) := by decide +kernel
theorem dX2_findNeeds_2 : decode cX2_findNeeds 2 = .ok (.iload_n 1, 1) := by decide +kernel
theorem dX2_findNeeds_3 : decode cX2_findNeeds 3 = .ok (.iconst 3, 1) := by decide +kernel
theorem dX2_findNeeds_4 : decode cX2_findNeeds 4 = .ok (.if_icmp .gt 46, 3) := by decide +kernel
theorem dX2_findNeeds_7 : decode cX2_findNeeds 7 = .ok (.iconst 0, 1) := by decide +kernel
theorem dX2_findNeeds_8 : decode cX2_findNeeds 8 = .ok (.istore_n 2, 1) := by decide +kernel
theorem dX2_findNeeds_9 : decode cX2_findNeeds 9 = .ok (.iload_n 2, 1) := by decide +kernel
theorem dX2_findNeeds_10 : decode cX2_findNeeds 10 = .ok (.aload_n 0, 1) := by decide +kernel
theorem dX2_findNeeds_11 : decode cX2_findNeeds 11 = .ok (.getfield 39, 3) := by decide +kernel
theorem dX2_findNeeds_14 : decode cX2_findNeeds 14 = .ok (.getfield 43, 3) := by decide +kernel
theorem dX2_findNeeds_17 : decode cX2_findNeeds 17 = .ok (.invokevirtual 49, 3) := by decide +kernel
theorem dX2_findNeeds_20 : decode cX2_findNeeds 20 = .ok (.if_icmp .ge 24, 3) := by decide +kernel
theorem dX2_findNeeds_23 : decode cX2_findNeeds 23 = .ok (.aload_n 0, 1) := by decide +kernel
theorem dX2_findNeeds_24 : decode cX2_findNeeds 24 = .ok (.getfield 18, 3) := by decide +kernel
theorem dX2_findNeeds_27 : decode cX2_findNeeds 27 = .ok (.iload_n 2, 1) := by decide +kernel
theorem dX2_findNeeds_28 : decode cX2_findNeeds 28 = .ok (.iaload, 1) := by decide +kernel
theorem dX2_findNeeds_29 : decode cX2_findNeeds 29 = .ok (.iload_n 1, 1) := by decide +kernel
theorem dX2_findNeeds_30 : decode cX2_findNeeds 30 = .ok (.if_icmp .ne 8, 3) := by decide +kernel
theorem dX2_findNeeds_33 : decode cX2_findNeeds 33 = .ok (.aload_n 0, 1) := by decide +kernel
theorem dX2_findNeeds_34 : decode cX2_findNeeds 34 = .ok (.iload_n 2, 1) := by decide +kernel
theorem dX2_findNeeds_35 : decode cX2_findNeeds 35 = .ok (.invokevirtual 155, 3) := by decide +kernel
theorem dX2_findNeeds_38 : decode cX2_findNeeds 38 = .ok (.iinc 2 1, 3) := by decide +kernel
theorem dX2_findNeeds_41 : decode cX2_findNeeds 41 = .ok (.goto (-32), 3) := by decide +kernel
theorem dX2_findNeeds_44 : decode cX2_findNeeds 44 = .ok (.iinc 1 1, 3) := by decide +kernel
theorem dX2_findNeeds_47 : decode cX2_findNeeds 47 = .ok (.goto (-45), 3) := by decide +kernel
theorem dX2_findNeeds_50 : decode cX2_findNeeds 50 = .ok (.return_, 1) := by decide +kernel
set_option maxRecDepth 20000 in
theorem ggX2_findNeedsOf_J7_fill_d0a16 : GoodIn wsX2_findNeedsOf wsJ7_fill_d0a16 := goodIn_r _ [15] (by decide +kernel) (by decide +kernel)
set_option maxRecDepth 20000 in
theorem gX2_findNeedsOf_J7_fill_d0a16 : GoodIn wsX2_findNeedsOf (va_wsS RX2 132 yJ7_fill_d0a16 wsJ7_fill_d0a16) := goodIn_app (goodIn_of _ (by decide +kernel)) ggX2_findNeedsOf_J7_fill_d0a16
set_option maxRecDepth 20000 in
theorem ggX2_findNeedsOf_X2_addTimes : GoodIn wsX2_findNeedsOf wsX2_addTimes := goodIn_ca (goodIn_r _ [19] (by decide +kernel) (by decide +kernel)) (goodIn_sub (fun _ h => List.mem_cons_of_mem _ (List.mem_append_right _ h)) (by decide +kernel))
set_option maxRecDepth 20000 in
theorem gX2_findNeedsOf_X2_addTimes : GoodIn wsX2_findNeedsOf (va_wsS RX2 159 yX2_addTimes wsX2_addTimes) := goodIn_app (goodIn_of _ (by decide +kernel)) ggX2_findNeedsOf_X2_addTimes
set_option maxRecDepth 20000 in
theorem ggX2_findNeedsOf_Jx4a65c_get_915e3 : GoodIn wsX2_findNeedsOf wsJx4a65c_get_915e3 := goodIn_r _ [24, 25, 26, 27, 28, 29, 30, 31, 32, 33, 34, 35, 36, 23, 37, 38, 64, 65, 66] (by decide +kernel) (by decide +kernel)
set_option maxRecDepth 20000 in
theorem gX2_findNeedsOf_Jx4a65c_get_915e3 : GoodIn wsX2_findNeedsOf (wsV RX2 72 RJx4a65c yJx4a65c_get_915e3 wsJx4a65c_get_915e3) := goodIn_app (goodIn_of _ (by decide +kernel)) ggX2_findNeedsOf_Jx4a65c_get_915e3
set_option maxRecDepth 20000 in
theorem ggX2_findNeedsOf_Jx4a65c_size_8abf5 : GoodIn wsX2_findNeedsOf wsJx4a65c_size_8abf5 := goodIn_r _ [42, 25, 64, 65, 66] (by decide +kernel) (by decide +kernel)
set_option maxRecDepth 20000 in
theorem gX2_findNeedsOf_Jx4a65c_size_8abf5 : GoodIn wsX2_findNeedsOf (wsV RX2 49 RJx4a65c yJx4a65c_size_8abf5 wsJx4a65c_size_8abf5) := goodIn_app (goodIn_of _ (by decide +kernel)) ggX2_findNeedsOf_Jx4a65c_size_8abf5
theorem dX2_findNeedsOf_0 : decode cX2_findNeedsOf 0 = .ok (.aload_n 0, 1) := by decide +kernel
theorem dX2_findNeedsOf_1 : decode cX2_findNeedsOf 1 = .ok (.getfield 26, 3) := by decide +kernel
theorem dX2_findNeedsOf_4 : decode cX2_findNeedsOf 4 = .ok (.iload_n 1, 1) := by decide +kernel
theorem dX2_findNeedsOf_5 : decode cX2_findNeedsOf 5 = .ok (.aaload, 1) := by decide +kernel
theorem dX2_findNeedsOf_6 : decode cX2_findNeedsOf 6 = .ok (.lconst 0, 1) := by decide +kernel
theorem dX2_findNeedsOf_7 : decode cX2_findNeedsOf 7 = .ok (.invokestatic 132, 3) := by decide +kernel
theorem dX2_findNeedsOf_10 : decode cX2_findNeedsOf 10 = .ok (.aload_n 0, 1) := by decide +kernel
theorem dX2_findNeedsOf_11 : decode cX2_findNeedsOf 11 = .ok (.getfield 26, 3) := by decide +kernel
theorem dX2_findNeedsOf_14 : decode cX2_findNeedsOf 14 = .ok (.iload_n 1, 1) := by decide +kernel
theorem dX2_findNeedsOf_15 : decode cX2_findNeedsOf 15 = .ok (.aaload, 1) := by decide +kernel
theorem dX2_findNeedsOf_16 : decode cX2_findNeedsOf 16 = .ok (.aload_n 0, 1) := by decide +kernel
theorem dX2_findNeedsOf_17 : decode cX2_findNeedsOf 17 = .ok (.getfield 23, 3) := by decide +kernel
theorem dX2_findNeedsOf_20 : decode cX2_findNeedsOf 20 = .ok (.iload_n 1, 1) := by decide +kernel
theorem dX2_findNeedsOf_21 : decode cX2_findNeedsOf 21 = .ok (.aaload, 1) := by decide +kernel
theorem dX2_findNeedsOf_22 : decode cX2_findNeedsOf 22 = .ok (.lconst 1, 1) := by decide +kernel
theorem dX2_findNeedsOf_23 : decode cX2_findNeedsOf 23 = .ok (.invokestatic 159, 3) := by decide +kernel
theorem dX2_findNeedsOf_26 : decode cX2_findNeedsOf 26 = .ok (.aload_n 0, 1) := by decide +kernel
theorem dX2_findNeedsOf_27 : decode cX2_findNeedsOf 27 = .ok (.getfield 39, 3) := by decide +kernel
theorem dX2_findNeedsOf_30 : decode cX2_findNeedsOf 30 = .ok (.getfield 43, 3) := by decide +kernel
theorem dX2_findNeedsOf_33 : decode cX2_findNeedsOf 33 = .ok (.iload_n 1, 1) := by decide +kernel
theorem dX2_findNeedsOf_34 : decode cX2_findNeedsOf 34 = .ok (.invokevirtual 72, 3) := by decide +kernel
theorem dX2_findNeedsOf_37 : decode cX2_findNeedsOf 37 = .ok (.checkcast 98, 3) := by decide +kernel
theorem dX2_findNeedsOf_40 : decode cX2_findNeedsOf 40 = .ok (.getfield 100, 3) := by decide +kernel
theorem dX2_findNeedsOf_43 : decode cX2_findNeedsOf 43 = .ok (.astore_n 2, 1) := by decide +kernel
theorem dX2_findNeedsOf_44 : decode cX2_findNeedsOf 44 = .ok (.iconst 0, 1) := by decide +kernel
theorem dX2_findNeedsOf_45 : decode cX2_findNeedsOf 45 = .ok (.istore_n 3, 1) := by decide +kernel
theorem dX2_findNeedsOf_46 : decode cX2_findNeedsOf 46 = .ok (.iload_n 3, 1) := by decide +kernel
theorem dX2_findNeedsOf_47 : decode cX2_findNeedsOf 47 = .ok (.aload_n 2, 1) := by decide +kernel
theorem dX2_findNeedsOf_48 : decode cX2_findNeedsOf 48 = .ok (.invokevirtual 49, 3) := by decide +kernel
theorem dX2_findNeedsOf_51 : decode cX2_findNeedsOf 51 = .ok (.if_icmp .ge 57, 3) := by decide +kernel
theorem dX2_findNeedsOf_54 : decode cX2_findNeedsOf 54 = .ok (.aload_n 2, 1) := by decide +kernel
theorem dX2_findNeedsOf_55 : decode cX2_findNeedsOf 55 = .ok (.iload_n 3, 1) := by decide +kernel
theorem dX2_findNeedsOf_56 : decode cX2_findNeedsOf 56 = .ok (.invokevirtual 72, 3) := by decide +kernel
theorem dX2_findNeedsOf_59 : decode cX2_findNeedsOf 59 = .ok (.checkcast 103, 3) := by decide +kernel
theorem dX2_findNeedsOf_62 : decode cX2_findNeedsOf 62 = .ok (.astore 4, 2) := by decide +kernel
theorem dX2_findNeedsOf_64 : decode cX2_findNeedsOf 64 = .ok (.aload 4, 2) := by decide +kernel
theorem dX2_findNeedsOf_66 : decode cX2_findNeedsOf 66 = .ok (.getfield 105, 3) := by decide +kernel
theorem dX2_findNeedsOf_69 : decode cX2_findNeedsOf 69 = .ok (.ifCond .ne 33, 3) := by decide +kernel
theorem dX2_findNeedsOf_72 : decode cX2_findNeedsOf 72 = .ok (.aload_n 0, 1) := by decide +kernel
theorem dX2_findNeedsOf_73 : decode cX2_findNeedsOf 73 = .ok (.getfield 26, 3) := by decide +kernel
theorem dX2_findNeedsOf_76 : decode cX2_findNeedsOf 76 = .ok (.iload_n 1, 1) := by decide +kernel
theorem dX2_findNeedsOf_77 : decode cX2_findNeedsOf 77 = .ok (.aaload, 1) := by decide +kernel
theorem dX2_findNeedsOf_78 : decode cX2_findNeedsOf 78 = .ok (.aload_n 0, 1) := by decide +kernel
theorem dX2_findNeedsOf_79 : decode cX2_findNeedsOf 79 = .ok (.getfield 26, 3) := by decide +kernel
theorem dX2_findNeedsOf_82 : decode cX2_findNeedsOf 82 = .ok (.aload_n 0, 1) := by decide +kernel
theorem dX2_findNeedsOf_83 : decode cX2_findNeedsOf 83 = .ok (.getfield 9, 3) := by decide +kernel
theorem dX2_findNeedsOf_86 : decode cX2_findNeedsOf 86 = .ok (.aload 4, 2) := by decide +kernel
theorem dX2_findNeedsOf_88 : decode cX2_findNeedsOf 88 = .ok (.getfield 109, 3) := by decide +kernel
theorem dX2_findNeedsOf_91 : decode cX2_findNeedsOf 91 = .ok (.iaload, 1) := by decide +kernel
theorem dX2_findNeedsOf_92 : decode cX2_findNeedsOf 92 = .ok (.aaload, 1) := by decide +kernel
theorem dX2_findNeedsOf_93 : decode cX2_findNeedsOf 93 = .ok (.aload 4, 2) := by decide +kernel
theorem dX2_findNeedsOf_95 : decode cX2_findNeedsOf 95 = .ok (.getfield 139, 3) := by decide +kernel
theorem dX2_findNeedsOf_98 : decode cX2_findNeedsOf 98 = .ok (.i2l, 1) := by decide +kernel
theorem dX2_findNeedsOf_99 : decode cX2_findNeedsOf 99 = .ok (.invokestatic 159, 3) := by decide +kernel
theorem dX2_findNeedsOf_102 : decode cX2_findNeedsOf 102 = .ok (.iinc 3 1, 3) := by decide +kernel
theorem dX2_findNeedsOf_105 : decode cX2_findNeedsOf 105 = .ok (.goto (-59), 3) := by decide +kernel
theorem dX2_findNeedsOf_108 : decode cX2_findNeedsOf 108 = .ok (.return_, 1) := by decide +kernel
theorem dX2_addTimes_0 : decode cX2_addTimes 0 = .ok (.iconst 0, 1) := by decide +kernel
theorem dX2_addTimes_1 : decode cX2_addTimes 1 = .ok (.istore 4, 2) := by decide +kernel
theorem dX2_addTimes_3 : decode cX2_addTimes 3 = .ok (.iload 4, 2) := by decide +kernel
theorem dX2_addTimes_5 : decode cX2_addTimes 5 = .ok (.bipush 12, 2) := by decide +kernel
theorem dX2_addTimes_7 : decode cX2_addTimes 7 = .ok (.if_icmp .ge 22, 3) := by decide +kernel
theorem dX2_addTimes_10 : decode cX2_addTimes 10 = .ok (.aload_n 0, 1) := by decide +kernel
theorem dX2_addTimes_11 : decode cX2_addTimes 11 = .ok (.iload 4, 2) := by decide +kernel
theorem dX2_addTimes_13 : decode cX2_addTimes 13 = .ok (.dup2, 1) := by decide +kernel
theorem dX2_addTimes_14 : decode cX2_addTimes 14 = .ok (.laload, 1) := by decide +kernel
theorem dX2_addTimes_15 : decode cX2_addTimes 15 = .ok (.aload_n 1, 1) := by decide +kernel
theorem dX2_addTimes_16 : decode cX2_addTimes 16 = .ok (.iload 4, 2) := by decide +kernel
theorem dX2_addTimes_18 : decode cX2_addTimes 18 = .ok (.laload, 1) := by decide +kernel
theorem dX2_addTimes_19 : decode cX2_addTimes 19 = .ok (.lload_n 2, 1) := by decide +kernel
theorem dX2_addTimes_20 : decode cX2_addTimes 20 = .ok (.lmul, 1) := by decide +kernel
theorem dX2_addTimes_21 : decode cX2_addTimes 21 = .ok (.ladd, 1) := by decide +kernel
theorem dX2_addTimes_22 : decode cX2_addTimes 22 = .ok (.lastore, 1) := by decide +kernel
theorem dX2_addTimes_23 : decode cX2_addTimes 23 = .ok (.iinc 4 1, 3) := by decide +kernel
theorem dX2_addTimes_26 : decode cX2_addTimes 26 = .ok (.goto (-23), 3) := by decide +kernel
theorem dX2_addTimes_29 : decode cX2_addTimes 29 = .ok (.return_, 1) := by decide +kernel
set_option maxRecDepth 20000 in
theorem ggX2_findItemUnits_J7_fill_d0a16 : GoodIn wsX2_findItemUnits wsJ7_fill_d0a16 := goodIn_r _ [13] (by decide +kernel) (by decide +kernel)
set_option maxRecDepth 20000 in
theorem gX2_findItemUnits_J7_fill_d0a16 : GoodIn wsX2_findItemUnits (va_wsS RX2 132 yJ7_fill_d0a16 wsJ7_fill_d0a16) := goodIn_app (goodIn_of _ (by decide +kernel)) ggX2_findItemUnits_J7_fill_d0a16
set_option maxRecDepth 20000 in
theorem ggX2_findItemUnits_Jx4a65c_size_8abf5 : GoodIn wsX2_findItemUnits wsJx4a65c_size_8abf5 := goodIn_r _ [18, 19, 66, 67, 68] (by decide +kernel) (by decide +kernel)
set_option maxRecDepth 20000 in
theorem gX2_findItemUnits_Jx4a65c_size_8abf5 : GoodIn wsX2_findItemUnits (wsV RX2 49 RJx4a65c yJx4a65c_size_8abf5 wsJx4a65c_size_8abf5) := goodIn_app (goodIn_of _ (by decide +kernel)) ggX2_findItemUnits_Jx4a65c_size_8abf5
set_option maxRecDepth 20000 in
theorem ggX2_findItemUnits_Jx4a65c_get_915e3 : GoodIn wsX2_findItemUnits wsJx4a65c_get_915e3 := goodIn_r _ [23, 19, 24, 25, 26, 27, 28, 29, 30, 31, 32, 33, 34, 17, 35, 36, 66, 67, 68] (by decide +kernel) (by decide +kernel)
set_option maxRecDepth 20000 in
theorem gX2_findItemUnits_Jx4a65c_get_915e3 : GoodIn wsX2_findItemUnits (wsV RX2 72 RJx4a65c yJx4a65c_get_915e3 wsJx4a65c_get_915e3) := goodIn_app (goodIn_of _ (by decide +kernel)) ggX2_findItemUnits_Jx4a65c_get_915e3
set_option maxRecDepth 20000 in
theorem ggX2_findItemUnits_X2_passUnitsOn : GoodIn wsX2_findItemUnits wsX2_passUnitsOn := goodIn_ca (goodIn_r _ [41, 2, 8, 42, 43, 44, 45, 1, 5, 46, 47, 20, 21, 22, 17, 23, 19, 24, 25, 26, 27, 28, 29, 30, 31, 32, 33, 34, 35, 36, 14, 15, 16, 18, 48, 49, 50, 51, 52, 53, 54, 55, 56, 57, 58, 59, 60, 61, 62, 63, 69, 70, 71, 72, 73, 66, 67, 68] (by decide +kernel) (by decide +kernel)) (goodIn_sub (fun _ h => List.mem_cons_of_mem _ (List.mem_append_right _ h)) (by decide +kernel))
set_option maxRecDepth 20000 in
theorem gX2_findItemUnits_X2_passUnitsOn : GoodIn wsX2_findItemUnits (wsV RX2 172 RX2 yX2_passUnitsOn wsX2_passUnitsOn) := goodIn_app (goodIn_of _ (by decide +kernel)) ggX2_findItemUnits_X2_passUnitsOn
theorem dX2_findItemUnits_0 : decode cX2_findItemUnits 0 = .ok (.aload_n 0, 1) := by decide +kernel
theorem dX2_findItemUnits_1 : decode cX2_findItemUnits 1 = .ok (.getfield 29, 3) := by decide +kernel
theorem dX2_findItemUnits_4 : decode cX2_findItemUnits 4 = .ok (.lconst 0, 1) := by decide +kernel
theorem dX2_findItemUnits_5 : decode cX2_findItemUnits 5 = .ok (.invokestatic 132, 3) := by decide +kernel
theorem dX2_findItemUnits_8 : decode cX2_findItemUnits 8 = .ok (.iconst 0, 1) := by decide +kernel
theorem dX2_findItemUnits_9 : decode cX2_findItemUnits 9 = .ok (.istore_n 1, 1) := by decide +kernel
theorem dX2_findItemUnits_10 : decode cX2_findItemUnits 10 = .ok (.iload_n 1, 1) := by decide +kernel
theorem dX2_findItemUnits_11 : decode cX2_findItemUnits 11 = .ok (.aload_n 0, 1) := by decide +kernel
theorem dX2_findItemUnits_12 : decode cX2_findItemUnits 12 = .ok (.getfield 39, 3) := by decide +kernel
theorem dX2_findItemUnits_15 : decode cX2_findItemUnits 15 = .ok (.getfield 163, 3) := by decide +kernel
theorem dX2_findItemUnits_18 : decode cX2_findItemUnits 18 = .ok (.invokevirtual 49, 3) := by decide +kernel
theorem dX2_findItemUnits_21 : decode cX2_findItemUnits 21 = .ok (.if_icmp .ge 46, 3) := by decide +kernel
theorem dX2_findItemUnits_24 : decode cX2_findItemUnits 24 = .ok (.aload_n 0, 1) := by decide +kernel
theorem dX2_findItemUnits_25 : decode cX2_findItemUnits 25 = .ok (.getfield 39, 3) := by decide +kernel
theorem dX2_findItemUnits_28 : decode cX2_findItemUnits 28 = .ok (.getfield 163, 3) := by decide +kernel
theorem dX2_findItemUnits_31 : decode cX2_findItemUnits 31 = .ok (.iload_n 1, 1) := by decide +kernel
theorem dX2_findItemUnits_32 : decode cX2_findItemUnits 32 = .ok (.invokevirtual 72, 3) := by decide +kernel
theorem dX2_findItemUnits_35 : decode cX2_findItemUnits 35 = .ok (.checkcast 166, 3) := by decide +kernel
theorem dX2_findItemUnits_38 : decode cX2_findItemUnits 38 = .ok (.astore_n 2, 1) := by decide +kernel
theorem dX2_findItemUnits_39 : decode cX2_findItemUnits 39 = .ok (.aload_n 0, 1) := by decide +kernel
theorem dX2_findItemUnits_40 : decode cX2_findItemUnits 40 = .ok (.getfield 29, 3) := by decide +kernel
theorem dX2_findItemUnits_43 : decode cX2_findItemUnits 43 = .ok (.aload_n 0, 1) := by decide +kernel
theorem dX2_findItemUnits_44 : decode cX2_findItemUnits 44 = .ok (.getfield 9, 3) := by decide +kernel
theorem dX2_findItemUnits_47 : decode cX2_findItemUnits 47 = .ok (.aload_n 2, 1) := by decide +kernel
theorem dX2_findItemUnits_48 : decode cX2_findItemUnits 48 = .ok (.getfield 168, 3) := by decide +kernel
theorem dX2_findItemUnits_51 : decode cX2_findItemUnits 51 = .ok (.iaload, 1) := by decide +kernel
theorem dX2_findItemUnits_52 : decode cX2_findItemUnits 52 = .ok (.dup2, 1) := by decide +kernel
theorem dX2_findItemUnits_53 : decode cX2_findItemUnits 53 = .ok (.laload, 1) := by decide +kernel
theorem dX2_findItemUnits_54 : decode cX2_findItemUnits 54 = .ok (.aload_n 2, 1) := by decide +kernel
theorem dX2_findItemUnits_55 : decode cX2_findItemUnits 55 = .ok (.getfield 171, 3) := by decide +kernel
theorem dX2_findItemUnits_58 : decode cX2_findItemUnits 58 = .ok (.i2l, 1) := by decide +kernel
theorem dX2_findItemUnits_59 : decode cX2_findItemUnits 59 = .ok (.ladd, 1) := by decide +kernel
theorem dX2_findItemUnits_60 : decode cX2_findItemUnits 60 = .ok (.lastore, 1) := by decide +kernel
theorem dX2_findItemUnits_61 : decode cX2_findItemUnits 61 = .ok (.iinc 1 1, 3) := by decide +kernel
theorem dX2_findItemUnits_64 : decode cX2_findItemUnits 64 = .ok (.goto (-54), 3) := by decide +kernel
theorem dX2_findItemUnits_67 : decode cX2_findItemUnits 67 = .ok (.iconst 3, 1) := by decide +kernel
theorem dX2_findItemUnits_68 : decode cX2_findItemUnits 68 = .ok (.istore_n 1, 1) := by decide +kernel
theorem dX2_findItemUnits_69 : decode cX2_findItemUnits 69 = .ok (.iload_n 1, 1) := by decide +kernel
theorem dX2_findItemUnits_70 : decode cX2_findItemUnits 70 = .ok (.iconst 1, 1) := by decide +kernel
theorem dX2_findItemUnits_71 : decode cX2_findItemUnits 71 = .ok (.if_icmp .le 46, 3) := by decide +kernel
theorem dX2_findItemUnits_74 : decode cX2_findItemUnits 74 = .ok (.iconst 0, 1) := by decide +kernel
theorem dX2_findItemUnits_75 : decode cX2_findItemUnits 75 = .ok (.istore_n 2, 1) := by decide +kernel
theorem dX2_findItemUnits_76 : decode cX2_findItemUnits 76 = .ok (.iload_n 2, 1) := by decide +kernel
theorem dX2_findItemUnits_77 : decode cX2_findItemUnits 77 = .ok (.aload_n 0, 1) := by decide +kernel
theorem dX2_findItemUnits_78 : decode cX2_findItemUnits 78 = .ok (.getfield 39, 3) := by decide +kernel
theorem dX2_findItemUnits_81 : decode cX2_findItemUnits 81 = .ok (.getfield 43, 3) := by decide +kernel
theorem dX2_findItemUnits_84 : decode cX2_findItemUnits 84 = .ok (.invokevirtual 49, 3) := by decide +kernel
theorem dX2_findItemUnits_87 : decode cX2_findItemUnits 87 = .ok (.if_icmp .ge 24, 3) := by decide +kernel
theorem dX2_findItemUnits_90 : decode cX2_findItemUnits 90 = .ok (.aload_n 0, 1) := by decide +kernel
theorem dX2_findItemUnits_91 : decode cX2_findItemUnits 91 = .ok (.getfield 18, 3) := by decide +kernel
theorem dX2_findItemUnits_94 : decode cX2_findItemUnits 94 = .ok (.iload_n 2, 1) := by decide +kernel
theorem dX2_findItemUnits_95 : decode cX2_findItemUnits 95 = .ok (.iaload, 1) := by decide +kernel
theorem dX2_findItemUnits_96 : decode cX2_findItemUnits 96 = .ok (.iload_n 1, 1) := by decide +kernel
theorem dX2_findItemUnits_97 : decode cX2_findItemUnits 97 = .ok (.if_icmp .ne 8, 3) := by decide +kernel
theorem dX2_findItemUnits_100 : decode cX2_findItemUnits 100 = .ok (.aload_n 0, 1) := by decide +kernel
theorem dX2_findItemUnits_101 : decode cX2_findItemUnits 101 = .ok (.iload_n 2, 1) := by decide +kernel
theorem dX2_findItemUnits_102 : decode cX2_findItemUnits 102 = .ok (.invokevirtual 172, 3) := by decide +kernel
theorem dX2_findItemUnits_105 : decode cX2_findItemUnits 105 = .ok (.iinc 2 1, 3) := by decide +kernel
theorem dX2_findItemUnits_108 : decode cX2_findItemUnits 108 = .ok (.goto (-32), 3) := by decide +kernel
theorem dX2_findItemUnits_111 : decode cX2_findItemUnits 111 = .ok (.iinc 1 (-1), 3) := by decide +kernel
theorem dX2_findItemUnits_114 : decode cX2_findItemUnits 114 = .ok (.goto (-45), 3) := by decide +kernel
theorem dX2_findItemUnits_117 : decode cX2_findItemUnits 117 = .ok (.return_, 1) := by decide +kernel
set_option maxRecDepth 20000 in
theorem ggX2_passUnitsOn_Jx4a65c_get_915e3 : GoodIn wsX2_passUnitsOn wsJx4a65c_get_915e3 := goodIn_r _ [15, 16, 17, 18, 19, 20, 21, 22, 23, 24, 25, 26, 27, 14, 28, 29, 55, 56, 57] (by decide +kernel) (by decide +kernel)
set_option maxRecDepth 20000 in
theorem gX2_passUnitsOn_Jx4a65c_get_915e3 : GoodIn wsX2_passUnitsOn (wsV RX2 72 RJx4a65c yJx4a65c_get_915e3 wsJx4a65c_get_915e3) := goodIn_app (goodIn_of _ (by decide +kernel)) ggX2_passUnitsOn_Jx4a65c_get_915e3
set_option maxRecDepth 20000 in
theorem ggX2_passUnitsOn_Jx4a65c_size_8abf5 : GoodIn wsX2_passUnitsOn wsJx4a65c_size_8abf5 := goodIn_r _ [33, 16, 55, 56, 57] (by decide +kernel) (by decide +kernel)
set_option maxRecDepth 20000 in
theorem gX2_passUnitsOn_Jx4a65c_size_8abf5 : GoodIn wsX2_passUnitsOn (wsV RX2 49 RJx4a65c yJx4a65c_size_8abf5 wsJx4a65c_size_8abf5) := goodIn_app (goodIn_of _ (by decide +kernel)) ggX2_passUnitsOn_Jx4a65c_size_8abf5
theorem dX2_passUnitsOn_0 : decode cX2_passUnitsOn 0 = .ok (.aload_n 0, 1) := by decide +kernel
theorem dX2_passUnitsOn_1 : decode cX2_passUnitsOn 1 = .ok (.getfield 39, 3) := by decide +kernel
theorem dX2_passUnitsOn_4 : decode cX2_passUnitsOn 4 = .ok (.getfield 43, 3) := by decide +kernel
theorem dX2_passUnitsOn_7 : decode cX2_passUnitsOn 7 = .ok (.iload_n 1, 1) := by decide +kernel
theorem dX2_passUnitsOn_8 : decode cX2_passUnitsOn 8 = .ok (.invokevirtual 72, 3) := by decide +kernel
theorem dX2_passUnitsOn_11 : decode cX2_passUnitsOn 11 = .ok (.checkcast 98, 3) := by decide +kernel
theorem dX2_passUnitsOn_14 : decode cX2_passUnitsOn 14 = .ok (.getfield 100, 3) := by decide +kernel
theorem dX2_passUnitsOn_17 : decode cX2_passUnitsOn 17 = .ok (.astore_n 2, 1) := by decide +kernel
theorem dX2_passUnitsOn_18 : decode cX2_passUnitsOn 18 = .ok (.iconst 0, 1) := by decide +kernel
theorem dX2_passUnitsOn_19 : decode cX2_passUnitsOn 19 = .ok (.istore_n 3, 1) := by decide +kernel
theorem dX2_passUnitsOn_20 : decode cX2_passUnitsOn 20 = .ok (.iload_n 3, 1) := by decide +kernel
theorem dX2_passUnitsOn_21 : decode cX2_passUnitsOn 21 = .ok (.aload_n 2, 1) := by decide +kernel
theorem dX2_passUnitsOn_22 : decode cX2_passUnitsOn 22 = .ok (.invokevirtual 49, 3) := by decide +kernel
theorem dX2_passUnitsOn_25 : decode cX2_passUnitsOn 25 = .ok (.if_icmp .ge 58, 3) := by decide +kernel
theorem dX2_passUnitsOn_28 : decode cX2_passUnitsOn 28 = .ok (.aload_n 2, 1) := by decide +kernel
theorem dX2_passUnitsOn_29 : decode cX2_passUnitsOn 29 = .ok (.iload_n 3, 1) := by decide +kernel
theorem dX2_passUnitsOn_30 : decode cX2_passUnitsOn 30 = .ok (.invokevirtual 72, 3) := by decide +kernel
theorem dX2_passUnitsOn_33 : decode cX2_passUnitsOn 33 = .ok (.checkcast 103, 3) := by decide +kernel
theorem dX2_passUnitsOn_36 : decode cX2_passUnitsOn 36 = .ok (.astore 4, 2) := by decide +kernel
theorem dX2_passUnitsOn_38 : decode cX2_passUnitsOn 38 = .ok (.aload 4, 2) := by decide +kernel
theorem dX2_passUnitsOn_40 : decode cX2_passUnitsOn 40 = .ok (.getfield 105, 3) := by decide +kernel
theorem dX2_passUnitsOn_43 : decode cX2_passUnitsOn 43 = .ok (.ifCond .ne 34, 3) := by decide +kernel
theorem dX2_passUnitsOn_46 : decode cX2_passUnitsOn 46 = .ok (.aload_n 0, 1) := by decide +kernel
theorem dX2_passUnitsOn_47 : decode cX2_passUnitsOn 47 = .ok (.getfield 29, 3) := by decide +kernel
theorem dX2_passUnitsOn_50 : decode cX2_passUnitsOn 50 = .ok (.aload_n 0, 1) := by decide +kernel
theorem dX2_passUnitsOn_51 : decode cX2_passUnitsOn 51 = .ok (.getfield 9, 3) := by decide +kernel
theorem dX2_passUnitsOn_54 : decode cX2_passUnitsOn 54 = .ok (.aload 4, 2) := by decide +kernel
theorem dX2_passUnitsOn_56 : decode cX2_passUnitsOn 56 = .ok (.getfield 109, 3) := by decide +kernel
theorem dX2_passUnitsOn_59 : decode cX2_passUnitsOn 59 = .ok (.iaload, 1) := by decide +kernel
theorem dX2_passUnitsOn_60 : decode cX2_passUnitsOn 60 = .ok (.dup2, 1) := by decide +kernel
theorem dX2_passUnitsOn_61 : decode cX2_passUnitsOn 61 = .ok (.laload, 1) := by decide +kernel
theorem dX2_passUnitsOn_62 : decode cX2_passUnitsOn 62 = .ok (.aload_n 0, 1) := by decide +kernel
theorem dX2_passUnitsOn_63 : decode cX2_passUnitsOn 63 = .ok (.getfield 29, 3) := by decide +kernel
theorem dX2_passUnitsOn_66 : decode cX2_passUnitsOn 66 = .ok (.iload_n 1, 1) := by decide +kernel
theorem dX2_passUnitsOn_67 : decode cX2_passUnitsOn 67 = .ok (.laload, 1) := by decide +kernel
theorem dX2_passUnitsOn_68 : decode cX2_passUnitsOn 68 = .ok (.aload 4, 2) := by decide +kernel
theorem dX2_passUnitsOn_70 : decode cX2_passUnitsOn 70 = .ok (.getfield 139, 3) := by decide +kernel
theorem dX2_passUnitsOn_73 : decode cX2_passUnitsOn 73 = .ok (.i2l, 1) := by decide +kernel
theorem dX2_passUnitsOn_74 : decode cX2_passUnitsOn 74 = .ok (.lmul, 1) := by decide +kernel
theorem dX2_passUnitsOn_75 : decode cX2_passUnitsOn 75 = .ok (.ladd, 1) := by decide +kernel
theorem dX2_passUnitsOn_76 : decode cX2_passUnitsOn 76 = .ok (.lastore, 1) := by decide +kernel
theorem dX2_passUnitsOn_77 : decode cX2_passUnitsOn 77 = .ok (.iinc 3 1, 3) := by decide +kernel
theorem dX2_passUnitsOn_80 : decode cX2_passUnitsOn 80 = .ok (.goto (-60), 3) := by decide +kernel
theorem dX2_passUnitsOn_83 : decode cX2_passUnitsOn 83 = .ok (.return_, 1) := by decide +kernel
set_option maxRecDepth 20000 in
theorem ggX2_findAmounts_J7_fill_d0a16 : GoodIn wsX2_findAmounts wsJ7_fill_d0a16 := goodIn_r _ [12] (by decide +kernel) (by decide +kernel)
set_option maxRecDepth 20000 in
theorem gX2_findAmounts_J7_fill_d0a16 : GoodIn wsX2_findAmounts (va_wsS RX2 132 yJ7_fill_d0a16 wsJ7_fill_d0a16) := goodIn_app (goodIn_of _ (by decide +kernel)) ggX2_findAmounts_J7_fill_d0a16
set_option maxRecDepth 20000 in
theorem ggX2_findAmounts_Jx4a65c_size_8abf5 : GoodIn wsX2_findAmounts wsJx4a65c_size_8abf5 := goodIn_r _ [17, 18, 58, 59, 60] (by decide +kernel) (by decide +kernel)
set_option maxRecDepth 20000 in
theorem gX2_findAmounts_Jx4a65c_size_8abf5 : GoodIn wsX2_findAmounts (wsV RX2 49 RJx4a65c yJx4a65c_size_8abf5 wsJx4a65c_size_8abf5) := goodIn_app (goodIn_of _ (by decide +kernel)) ggX2_findAmounts_Jx4a65c_size_8abf5
set_option maxRecDepth 20000 in
theorem ggX2_findAmounts_Jx4a65c_get_915e3 : GoodIn wsX2_findAmounts wsJx4a65c_get_915e3 := goodIn_r _ [22, 18, 23, 24, 25, 26, 27, 28, 29, 30, 31, 32, 33, 16, 34, 35, 58, 59, 60] (by decide +kernel) (by decide +kernel)
set_option maxRecDepth 20000 in
theorem gX2_findAmounts_Jx4a65c_get_915e3 : GoodIn wsX2_findAmounts (wsV RX2 72 RJx4a65c yJx4a65c_get_915e3 wsJx4a65c_get_915e3) := goodIn_app (goodIn_of _ (by decide +kernel)) ggX2_findAmounts_Jx4a65c_get_915e3
set_option maxRecDepth 20000 in
theorem ggX2_findAmounts_X2_addTimes : GoodIn wsX2_findAmounts wsX2_addTimes := goodIn_ca (goodIn_r _ [39] (by decide +kernel) (by decide +kernel)) (goodIn_sub (fun _ h => List.mem_cons_of_mem _ (List.mem_append_right _ h)) (by decide +kernel))
set_option maxRecDepth 20000 in
theorem gX2_findAmounts_X2_addTimes : GoodIn wsX2_findAmounts (va_wsS RX2 159 yX2_addTimes wsX2_addTimes) := goodIn_app (goodIn_of _ (by decide +kernel)) ggX2_findAmounts_X2_addTimes
theorem dX2_findAmounts_0 : decode cX2_findAmounts 0 = .ok (.aload_n 0, 1) := by decide +kernel
theorem dX2_findAmounts_1 : decode cX2_findAmounts 1 = .ok (.getfield 33, 3) := by decide +kernel
theorem dX2_findAmounts_4 : decode cX2_findAmounts 4 = .ok (.lconst 0, 1) := by decide +kernel
theorem dX2_findAmounts_5 : decode cX2_findAmounts 5 = .ok (.invokestatic 132, 3) := by decide +kernel
theorem dX2_findAmounts_8 : decode cX2_findAmounts 8 = .ok (.iconst 0, 1) := by decide +kernel
theorem dX2_findAmounts_9 : decode cX2_findAmounts 9 = .ok (.istore_n 1, 1) := by decide +kernel
theorem dX2_findAmounts_10 : decode cX2_findAmounts 10 = .ok (.iload_n 1, 1) := by decide +kernel
theorem dX2_findAmounts_11 : decode cX2_findAmounts 11 = .ok (.aload_n 0, 1) := by decide +kernel
theorem dX2_findAmounts_12 : decode cX2_findAmounts 12 = .ok (.getfield 39, 3) := by decide +kernel
theorem dX2_findAmounts_15 : decode cX2_findAmounts 15 = .ok (.getfield 163, 3) := by decide +kernel
theorem dX2_findAmounts_18 : decode cX2_findAmounts 18 = .ok (.invokevirtual 49, 3) := by decide +kernel
theorem dX2_findAmounts_21 : decode cX2_findAmounts 21 = .ok (.if_icmp .ge 50, 3) := by decide +kernel
theorem dX2_findAmounts_24 : decode cX2_findAmounts 24 = .ok (.aload_n 0, 1) := by decide +kernel
theorem dX2_findAmounts_25 : decode cX2_findAmounts 25 = .ok (.getfield 39, 3) := by decide +kernel
theorem dX2_findAmounts_28 : decode cX2_findAmounts 28 = .ok (.getfield 163, 3) := by decide +kernel
theorem dX2_findAmounts_31 : decode cX2_findAmounts 31 = .ok (.iload_n 1, 1) := by decide +kernel
theorem dX2_findAmounts_32 : decode cX2_findAmounts 32 = .ok (.invokevirtual 72, 3) := by decide +kernel
theorem dX2_findAmounts_35 : decode cX2_findAmounts 35 = .ok (.checkcast 166, 3) := by decide +kernel
theorem dX2_findAmounts_38 : decode cX2_findAmounts 38 = .ok (.astore_n 2, 1) := by decide +kernel
theorem dX2_findAmounts_39 : decode cX2_findAmounts 39 = .ok (.aload_n 0, 1) := by decide +kernel
theorem dX2_findAmounts_40 : decode cX2_findAmounts 40 = .ok (.getfield 33, 3) := by decide +kernel
theorem dX2_findAmounts_43 : decode cX2_findAmounts 43 = .ok (.aload_n 0, 1) := by decide +kernel
theorem dX2_findAmounts_44 : decode cX2_findAmounts 44 = .ok (.getfield 26, 3) := by decide +kernel
theorem dX2_findAmounts_47 : decode cX2_findAmounts 47 = .ok (.aload_n 0, 1) := by decide +kernel
theorem dX2_findAmounts_48 : decode cX2_findAmounts 48 = .ok (.getfield 9, 3) := by decide +kernel
theorem dX2_findAmounts_51 : decode cX2_findAmounts 51 = .ok (.aload_n 2, 1) := by decide +kernel
theorem dX2_findAmounts_52 : decode cX2_findAmounts 52 = .ok (.getfield 168, 3) := by decide +kernel
theorem dX2_findAmounts_55 : decode cX2_findAmounts 55 = .ok (.iaload, 1) := by decide +kernel
theorem dX2_findAmounts_56 : decode cX2_findAmounts 56 = .ok (.aaload, 1) := by decide +kernel
theorem dX2_findAmounts_57 : decode cX2_findAmounts 57 = .ok (.aload_n 2, 1) := by decide +kernel
theorem dX2_findAmounts_58 : decode cX2_findAmounts 58 = .ok (.getfield 171, 3) := by decide +kernel
theorem dX2_findAmounts_61 : decode cX2_findAmounts 61 = .ok (.i2l, 1) := by decide +kernel
theorem dX2_findAmounts_62 : decode cX2_findAmounts 62 = .ok (.invokestatic 159, 3) := by decide +kernel
theorem dX2_findAmounts_65 : decode cX2_findAmounts 65 = .ok (.iinc 1 1, 3) := by decide +kernel
theorem dX2_findAmounts_68 : decode cX2_findAmounts 68 = .ok (.goto (-58), 3) := by decide +kernel
theorem dX2_findAmounts_71 : decode cX2_findAmounts 71 = .ok (.return_, 1) := by decide +kernel
set_option maxRecDepth 20000 in
theorem ggX2_findSurcharges_Jx4a65c_size_8abf5 : GoodIn wsX2_findSurcharges wsJx4a65c_size_8abf5 := goodIn_r _ [12, 13, 77, 78, 79] (by decide +kernel) (by decide +kernel)
set_option maxRecDepth 20000 in
theorem gX2_findSurcharges_Jx4a65c_size_8abf5 : GoodIn wsX2_findSurcharges (wsV RX2 49 RJx4a65c yJx4a65c_size_8abf5 wsJx4a65c_size_8abf5) := goodIn_app (goodIn_of _ (by decide +kernel)) ggX2_findSurcharges_Jx4a65c_size_8abf5
set_option maxRecDepth 20000 in
theorem ggX2_findSurcharges_Jx4a65c_get_915e3 : GoodIn wsX2_findSurcharges wsJx4a65c_get_915e3 := goodIn_r _ [17, 13, 18, 19, 20, 21, 22, 23, 24, 25, 26, 27, 28, 11, 29, 30, 77, 78, 79] (by decide +kernel) (by decide +kernel)
set_option maxRecDepth 20000 in
theorem gX2_findSurcharges_Jx4a65c_get_915e3 : GoodIn wsX2_findSurcharges (wsV RX2 72 RJx4a65c yJx4a65c_get_915e3 wsJx4a65c_get_915e3) := goodIn_app (goodIn_of _ (by decide +kernel)) ggX2_findSurcharges_Jx4a65c_get_915e3
set_option maxRecDepth 20000 in
theorem ggX2_findSurcharges_X2_sumOfBases : GoodIn wsX2_findSurcharges wsX2_sumOfBases := goodIn_ca (goodIn_ca (goodIn_r _ [35, 4, 36, 37, 38, 39, 40, 41, 34, 42, 1, 43, 44, 45, 46, 47, 8, 9, 10, 11, 12, 13, 14, 15, 16, 17, 18, 19, 20, 21, 22, 23, 24, 25, 26, 27, 28, 29, 30, 48, 49, 50, 51, 52, 53, 54, 55, 56, 57, 58, 7, 59, 60, 61, 62, 63, 64, 65, 66, 67, 68, 69, 70, 71, 72, 73, 74, 80, 81, 82, 83, 77, 78, 79] (by decide +kernel) (by decide +kernel)) (goodIn_sub (fun _ h => List.mem_cons_of_mem _ (List.mem_append_left _ (List.mem_append_right _ h))) (by decide +kernel))) (goodIn_sub (fun _ h => List.mem_cons_of_mem _ (List.mem_append_right _ h)) (by decide +kernel))
set_option maxRecDepth 20000 in
theorem gX2_findSurcharges_X2_sumOfBases : GoodIn wsX2_findSurcharges (wsV RX2 183 RX2 yX2_sumOfBases wsX2_sumOfBases) := goodIn_app (goodIn_of _ (by decide +kernel)) ggX2_findSurcharges_X2_sumOfBases
theorem dX2_findSurcharges_0 : decode cX2_findSurcharges 0 = .ok (.iconst 0, 1) := by decide +kernel
theorem dX2_findSurcharges_1 : decode cX2_findSurcharges 1 = .ok (.istore_n 1, 1) := by decide +kernel
theorem dX2_findSurcharges_2 : decode cX2_findSurcharges 2 = .ok (.iload_n 1, 1) := by decide +kernel
theorem dX2_findSurcharges_3 : decode cX2_findSurcharges 3 = .ok (.aload_n 0, 1) := by decide +kernel
theorem dX2_findSurcharges_4 : decode cX2_findSurcharges 4 = .ok (.getfield 39, 3) := by decide +kernel
theorem dX2_findSurcharges_7 : decode cX2_findSurcharges 7 = .ok (.getfield 175, 3) := by decide +kernel
theorem dX2_findSurcharges_10 : decode cX2_findSurcharges 10 = .ok (.invokevirtual 49, 3) := by decide +kernel
theorem dX2_findSurcharges_13 : decode cX2_findSurcharges 13 = .ok (.if_icmp .ge 49, 3) := by decide +kernel
theorem dX2_findSurcharges_16 : decode cX2_findSurcharges 16 = .ok (.aload_n 0, 1) := by decide +kernel
theorem dX2_findSurcharges_17 : decode cX2_findSurcharges 17 = .ok (.getfield 39, 3) := by decide +kernel
theorem dX2_findSurcharges_20 : decode cX2_findSurcharges 20 = .ok (.getfield 175, 3) := by decide +kernel
theorem dX2_findSurcharges_23 : decode cX2_findSurcharges 23 = .ok (.iload_n 1, 1) := by decide +kernel
theorem dX2_findSurcharges_24 : decode cX2_findSurcharges 24 = .ok (.invokevirtual 72, 3) := by decide +kernel
theorem dX2_findSurcharges_27 : decode cX2_findSurcharges 27 = .ok (.checkcast 178, 3) := by decide +kernel
theorem dX2_findSurcharges_30 : decode cX2_findSurcharges 30 = .ok (.astore_n 2, 1) := by decide +kernel
theorem dX2_findSurcharges_31 : decode cX2_findSurcharges 31 = .ok (.aload_n 0, 1) := by decide +kernel
theorem dX2_findSurcharges_32 : decode cX2_findSurcharges 32 = .ok (.getfield 36, 3) := by decide +kernel
theorem dX2_findSurcharges_35 : decode cX2_findSurcharges 35 = .ok (.iload_n 1, 1) := by decide +kernel
theorem dX2_findSurcharges_36 : decode cX2_findSurcharges 36 = .ok (.aload_n 0, 1) := by decide +kernel
theorem dX2_findSurcharges_37 : decode cX2_findSurcharges 37 = .ok (.aload_n 2, 1) := by decide +kernel
theorem dX2_findSurcharges_38 : decode cX2_findSurcharges 38 = .ok (.getfield 180, 3) := by decide +kernel
theorem dX2_findSurcharges_41 : decode cX2_findSurcharges 41 = .ok (.iload_n 1, 1) := by decide +kernel
theorem dX2_findSurcharges_42 : decode cX2_findSurcharges 42 = .ok (.invokevirtual 183, 3) := by decide +kernel
theorem dX2_findSurcharges_45 : decode cX2_findSurcharges 45 = .ok (.aload_n 2, 1) := by decide +kernel
theorem dX2_findSurcharges_46 : decode cX2_findSurcharges 46 = .ok (.getfield 187, 3) := by decide +kernel
theorem dX2_findSurcharges_49 : decode cX2_findSurcharges 49 = .ok (.i2l, 1) := by decide +kernel
theorem dX2_findSurcharges_50 : decode cX2_findSurcharges 50 = .ok (.lmul, 1) := by decide +kernel
theorem dX2_findSurcharges_51 : decode cX2_findSurcharges 51 = .ok (.ldc2_w 190, 3) := by decide +kernel
theorem dX2_findSurcharges_54 : decode cX2_findSurcharges 54 = .ok (.ldiv, 1) := by decide +kernel
theorem dX2_findSurcharges_55 : decode cX2_findSurcharges 55 = .ok (.lastore, 1) := by decide +kernel
theorem dX2_findSurcharges_56 : decode cX2_findSurcharges 56 = .ok (.iinc 1 1, 3) := by decide +kernel
theorem dX2_findSurcharges_59 : decode cX2_findSurcharges 59 = .ok (.goto (-57), 3) := by decide +kernel
theorem dX2_findSurcharges_62 : decode cX2_findSurcharges 62 = .ok (.return_, 1) := by decide +kernel
set_option maxRecDepth 20000 in
theorem ggX2_sumOfBases_X10_hasBit : GoodIn wsX2_sumOfBases wsX10_hasBit := goodIn_r _ [4] (by decide +kernel) (by decide +kernel)
set_option maxRecDepth 20000 in
theorem gX2_sumOfBases_X10_hasBit_n81 : GoodIn wsX2_sumOfBases (wsX10_hasBit) := ggX2_sumOfBases_X10_hasBit
set_option maxRecDepth 20000 in
theorem ggX2_sumOfBases_X2_kindCost : GoodIn wsX2_sumOfBases wsX2_kindCost := goodIn_ca (goodIn_r _ [9, 10, 11, 12, 13, 14, 15, 16, 17, 18, 19, 20, 21, 22, 23, 24, 25, 26, 27, 28, 29, 30, 31, 32, 33, 34, 35, 36, 37, 38, 51, 52, 53, 54, 55, 56, 57, 58, 59, 60, 61, 62, 63, 64, 65, 66, 67, 68, 69, 70, 71, 72, 73] (by decide +kernel) (by decide +kernel)) (goodIn_sub (fun _ h => List.mem_cons_of_mem _ (List.mem_append_left _ (List.mem_append_right _ h))) (by decide +kernel))
set_option maxRecDepth 20000 in
theorem gX2_sumOfBases_X2_kindCost : GoodIn wsX2_sumOfBases (wsV RX2 192 RX2 yX2_kindCost wsX2_kindCost) := goodIn_app (goodIn_of _ (by decide +kernel)) ggX2_sumOfBases_X2_kindCost
set_option maxRecDepth 20000 in
theorem ggX2_sumOfBases_X2_extraCost : GoodIn wsX2_sumOfBases wsX2_extraCost := goodIn_ca (goodIn_ca (goodIn_r _ [42, 10, 11, 12, 43, 14, 15, 16, 17, 18, 19, 20, 21, 22, 23, 24, 25, 26, 27, 28, 29, 30, 31, 32, 33, 34, 35, 36, 37, 38, 44, 45, 46, 8, 47, 48, 49, 50, 51, 52, 53, 54, 55, 56, 57, 58, 59, 60, 61, 62, 63, 64, 65, 66, 67, 68, 69, 70, 71, 72, 73] (by decide +kernel) (by decide +kernel)) (goodIn_sub (fun _ h => List.mem_cons_of_mem _ (List.mem_append_left _ (List.mem_append_right _ h))) (by decide +kernel))) (goodIn_sub (fun _ h => List.mem_cons_of_mem _ (List.mem_append_right _ h)) (by decide +kernel))
set_option maxRecDepth 20000 in
theorem gX2_sumOfBases_X2_extraCost : GoodIn wsX2_sumOfBases (wsV RX2 196 RX2 yX2_extraCost wsX2_extraCost) := goodIn_app (goodIn_of _ (by decide +kernel)) ggX2_sumOfBases_X2_extraCost
theorem dX2_sumOfBases_0 : decode cX2_sumOfBases 0 = .ok (.lconst 0, 1) := by decide +kernel
theorem dX2_sumOfBases_1 : decode cX2_sumOfBases 1 = .ok (.lstore_n 3, 1) := by decide +kernel
theorem dX2_sumOfBases_2 : decode cX2_sumOfBases 2 = .ok (.iconst 0, 1) := by decide +kernel
theorem dX2_sumOfBases_3 : decode cX2_sumOfBases 3 = .ok (.istore 5, 2) := by decide +kernel
theorem dX2_sumOfBases_5 : decode cX2_sumOfBases 5 = .ok (.iload 5, 2) := by decide +kernel
theorem dX2_sumOfBases_7 : decode cX2_sumOfBases 7 = .ok (.iconst 2, 1) := by decide +kernel
theorem dX2_sumOfBases_8 : decode cX2_sumOfBases 8 = .ok (.if_icmp .gt 27, 3) := by decide +kernel
theorem dX2_sumOfBases_11 : decode cX2_sumOfBases 11 = .ok (.iload_n 1, 1) := by decide +kernel
theorem dX2_sumOfBases_12 : decode cX2_sumOfBases 12 = .ok (.iload 5, 2) := by decide +kernel
theorem dX2_sumOfBases_14 : decode cX2_sumOfBases 14 = .ok (.invokestatic 81, 3) := by decide +kernel
theorem dX2_sumOfBases_17 : decode cX2_sumOfBases 17 = .ok (.ifCond .eq 12, 3) := by decide +kernel
theorem dX2_sumOfBases_20 : decode cX2_sumOfBases 20 = .ok (.lload_n 3, 1) := by decide +kernel
theorem dX2_sumOfBases_21 : decode cX2_sumOfBases 21 = .ok (.aload_n 0, 1) := by decide +kernel
theorem dX2_sumOfBases_22 : decode cX2_sumOfBases 22 = .ok (.iload 5, 2) := by decide +kernel
theorem dX2_sumOfBases_24 : decode cX2_sumOfBases 24 = .ok (.invokevirtual 192, 3) := by decide +kernel
theorem dX2_sumOfBases_27 : decode cX2_sumOfBases 27 = .ok (.ladd, 1) := by decide +kernel
theorem dX2_sumOfBases_28 : decode cX2_sumOfBases 28 = .ok (.lstore_n 3, 1) := by decide +kernel
theorem dX2_sumOfBases_29 : decode cX2_sumOfBases 29 = .ok (.iinc 5 1, 3) := by decide +kernel
theorem dX2_sumOfBases_32 : decode cX2_sumOfBases 32 = .ok (.goto (-27), 3) := by decide +kernel
theorem dX2_sumOfBases_35 : decode cX2_sumOfBases 35 = .ok (.iload_n 1, 1) := by decide +kernel
theorem dX2_sumOfBases_36 : decode cX2_sumOfBases 36 = .ok (.iconst 3, 1) := by decide +kernel
theorem dX2_sumOfBases_37 : decode cX2_sumOfBases 37 = .ok (.invokestatic 81, 3) := by decide +kernel
theorem dX2_sumOfBases_40 : decode cX2_sumOfBases 40 = .ok (.ifCond .eq 10, 3) := by decide +kernel
theorem dX2_sumOfBases_43 : decode cX2_sumOfBases 43 = .ok (.lload_n 3, 1) := by decide +kernel
theorem dX2_sumOfBases_44 : decode cX2_sumOfBases 44 = .ok (.aload_n 0, 1) := by decide +kernel
theorem dX2_sumOfBases_45 : decode cX2_sumOfBases 45 = .ok (.invokevirtual 196, 3) := by decide +kernel
theorem dX2_sumOfBases_48 : decode cX2_sumOfBases 48 = .ok (.ladd, 1) := by decide +kernel
theorem dX2_sumOfBases_49 : decode cX2_sumOfBases 49 = .ok (.lstore_n 3, 1) := by decide +kernel
theorem dX2_sumOfBases_50 : decode cX2_sumOfBases 50 = .ok (.iconst 0, 1) := by decide +kernel
theorem dX2_sumOfBases_51 : decode cX2_sumOfBases 51 = .ok (.istore 5, 2) := by decide +kernel
theorem dX2_sumOfBases_53 : decode cX2_sumOfBases 53 = .ok (.iload 5, 2) := by decide +kernel
theorem dX2_sumOfBases_55 : decode cX2_sumOfBases 55 = .ok (.iload_n 2, 1) := by decide +kernel
theorem dX2_sumOfBases_56 : decode cX2_sumOfBases 56 = .ok (.if_icmp .ge 30, 3) := by decide +kernel
theorem dX2_sumOfBases_59 : decode cX2_sumOfBases 59 = .ok (.iload_n 1, 1) := by decide +kernel
theorem dX2_sumOfBases_60 : decode cX2_sumOfBases 60 = .ok (.iconst 4, 1) := by decide +kernel
theorem dX2_sumOfBases_61 : decode cX2_sumOfBases 61 = .ok (.iload 5, 2) := by decide +kernel
theorem dX2_sumOfBases_63 : decode cX2_sumOfBases 63 = .ok (.iadd, 1) := by decide +kernel
theorem dX2_sumOfBases_64 : decode cX2_sumOfBases 64 = .ok (.invokestatic 81, 3) := by decide +kernel
theorem dX2_sumOfBases_67 : decode cX2_sumOfBases 67 = .ok (.ifCond .eq 13, 3) := by decide +kernel
theorem dX2_sumOfBases_70 : decode cX2_sumOfBases 70 = .ok (.lload_n 3, 1) := by decide +kernel
theorem dX2_sumOfBases_71 : decode cX2_sumOfBases 71 = .ok (.aload_n 0, 1) := by decide +kernel
theorem dX2_sumOfBases_72 : decode cX2_sumOfBases 72 = .ok (.getfield 36, 3) := by decide +kernel
theorem dX2_sumOfBases_75 : decode cX2_sumOfBases 75 = .ok (.iload 5, 2) := by decide +kernel
theorem dX2_sumOfBases_77 : decode cX2_sumOfBases 77 = .ok (.laload, 1) := by decide +kernel
theorem dX2_sumOfBases_78 : decode cX2_sumOfBases 78 = .ok (.ladd, 1) := by decide +kernel
theorem dX2_sumOfBases_79 : decode cX2_sumOfBases 79 = .ok (.lstore_n 3, 1) := by decide +kernel
theorem dX2_sumOfBases_80 : decode cX2_sumOfBases 80 = .ok (.iinc 5 1, 3) := by decide +kernel
theorem dX2_sumOfBases_83 : decode cX2_sumOfBases 83 = .ok (.goto (-30), 3) := by decide +kernel
theorem dX2_sumOfBases_86 : decode cX2_sumOfBases 86 = .ok (.lload_n 3, 1) := by decide +kernel
theorem dX2_sumOfBases_87 : decode cX2_sumOfBases 87 = .ok (.lreturn, 1) := by decide +kernel
set_option maxRecDepth 20000 in
theorem ggX2_costOfUnits_Jx4a65c_size_8abf5 : GoodIn wsX2_costOfUnits wsJx4a65c_size_8abf5 := goodIn_r _ [9, 10, 48, 49, 50] (by decide +kernel) (by decide +kernel)
set_option maxRecDepth 20000 in
theorem gX2_costOfUnits_Jx4a65c_size_8abf5 : GoodIn wsX2_costOfUnits (wsV RX2 49 RJx4a65c yJx4a65c_size_8abf5 wsJx4a65c_size_8abf5) := goodIn_app (goodIn_of _ (by decide +kernel)) ggX2_costOfUnits_Jx4a65c_size_8abf5
set_option maxRecDepth 20000 in
theorem ggX2_costOfUnits_Jx4a65c_get_915e3 : GoodIn wsX2_costOfUnits wsJx4a65c_get_915e3 := goodIn_r _ [14, 10, 15, 16, 17, 18, 19, 20, 21, 22, 23, 24, 25, 8, 26, 27, 48, 49, 50] (by decide +kernel) (by decide +kernel)
set_option maxRecDepth 20000 in
theorem gX2_costOfUnits_Jx4a65c_get_915e3 : GoodIn wsX2_costOfUnits (wsV RX2 72 RJx4a65c yJx4a65c_get_915e3 wsJx4a65c_get_915e3) := goodIn_app (goodIn_of _ (by decide +kernel)) ggX2_costOfUnits_Jx4a65c_get_915e3
theorem dX2_costOfUnits_0 : decode cX2_costOfUnits 0 = .ok (.lconst 0, 1) := by decide +kernel
theorem dX2_costOfUnits_1 : decode cX2_costOfUnits 1 = .ok (.lstore_n 2, 1) := by decide +kernel
theorem dX2_costOfUnits_2 : decode cX2_costOfUnits 2 = .ok (.iconst 0, 1) := by decide +kernel
theorem dX2_costOfUnits_3 : decode cX2_costOfUnits 3 = .ok (.istore 4, 2) := by decide +kernel
theorem dX2_costOfUnits_5 : decode cX2_costOfUnits 5 = .ok (.iload 4, 2) := by decide +kernel
theorem dX2_costOfUnits_7 : decode cX2_costOfUnits 7 = .ok (.aload_n 0, 1) := by decide +kernel
theorem dX2_costOfUnits_8 : decode cX2_costOfUnits 8 = .ok (.getfield 39, 3) := by decide +kernel
theorem dX2_costOfUnits_11 : decode cX2_costOfUnits 11 = .ok (.getfield 59, 3) := by decide +kernel
theorem dX2_costOfUnits_14 : decode cX2_costOfUnits 14 = .ok (.invokevirtual 49, 3) := by decide +kernel
theorem dX2_costOfUnits_17 : decode cX2_costOfUnits 17 = .ok (.if_icmp .ge 36, 3) := by decide +kernel
theorem dX2_costOfUnits_20 : decode cX2_costOfUnits 20 = .ok (.lload_n 2, 1) := by decide +kernel
theorem dX2_costOfUnits_21 : decode cX2_costOfUnits 21 = .ok (.aload_n 1, 1) := by decide +kernel
theorem dX2_costOfUnits_22 : decode cX2_costOfUnits 22 = .ok (.iload 4, 2) := by decide +kernel
theorem dX2_costOfUnits_24 : decode cX2_costOfUnits 24 = .ok (.laload, 1) := by decide +kernel
theorem dX2_costOfUnits_25 : decode cX2_costOfUnits 25 = .ok (.aload_n 0, 1) := by decide +kernel
theorem dX2_costOfUnits_26 : decode cX2_costOfUnits 26 = .ok (.getfield 39, 3) := by decide +kernel
theorem dX2_costOfUnits_29 : decode cX2_costOfUnits 29 = .ok (.getfield 59, 3) := by decide +kernel
theorem dX2_costOfUnits_32 : decode cX2_costOfUnits 32 = .ok (.iload 4, 2) := by decide +kernel
theorem dX2_costOfUnits_34 : decode cX2_costOfUnits 34 = .ok (.invokevirtual 72, 3) := by decide +kernel
theorem dX2_costOfUnits_37 : decode cX2_costOfUnits 37 = .ok (.checkcast 200, 3) := by decide +kernel
theorem dX2_costOfUnits_40 : decode cX2_costOfUnits 40 = .ok (.getfield 202, 3) := by decide +kernel
theorem dX2_costOfUnits_43 : decode cX2_costOfUnits 43 = .ok (.i2l, 1) := by decide +kernel
theorem dX2_costOfUnits_44 : decode cX2_costOfUnits 44 = .ok (.lmul, 1) := by decide +kernel
theorem dX2_costOfUnits_45 : decode cX2_costOfUnits 45 = .ok (.ladd, 1) := by decide +kernel
theorem dX2_costOfUnits_46 : decode cX2_costOfUnits 46 = .ok (.lstore_n 2, 1) := by decide +kernel
theorem dX2_costOfUnits_47 : decode cX2_costOfUnits 47 = .ok (.iinc 4 1, 3) := by decide +kernel
theorem dX2_costOfUnits_50 : decode cX2_costOfUnits 50 = .ok (.goto (-45), 3) := by decide +kernel
theorem dX2_costOfUnits_53 : decode cX2_costOfUnits 53 = .ok (.lload_n 2, 1) := by decide +kernel
theorem dX2_costOfUnits_54 : decode cX2_costOfUnits 54 = .ok (.lreturn, 1) := by decide +kernel
set_option maxRecDepth 20000 in
theorem ggX2_resourceCost_Jx4a65c_get_915e3 : GoodIn wsX2_resourceCost wsJx4a65c_get_915e3 := goodIn_r _ [10, 11, 12, 13, 14, 15, 16, 17, 18, 19, 20, 21, 22, 9, 23, 24, 45, 46, 47] (by decide +kernel) (by decide +kernel)
set_option maxRecDepth 20000 in
theorem gX2_resourceCost_Jx4a65c_get_915e3 : GoodIn wsX2_resourceCost (wsV RX2 72 RJx4a65c yJx4a65c_get_915e3 wsJx4a65c_get_915e3) := goodIn_app (goodIn_of _ (by decide +kernel)) ggX2_resourceCost_Jx4a65c_get_915e3
theorem dX2_resourceCost_0 : decode cX2_resourceCost 0 = .ok (.aload_n 0, 1) := by decide +kernel
theorem dX2_resourceCost_1 : decode cX2_resourceCost 1 = .ok (.getfield 33, 3) := by decide +kernel
theorem dX2_resourceCost_4 : decode cX2_resourceCost 4 = .ok (.iload_n 1, 1) := by decide +kernel
theorem dX2_resourceCost_5 : decode cX2_resourceCost 5 = .ok (.laload, 1) := by decide +kernel
theorem dX2_resourceCost_6 : decode cX2_resourceCost 6 = .ok (.aload_n 0, 1) := by decide +kernel
theorem dX2_resourceCost_7 : decode cX2_resourceCost 7 = .ok (.getfield 39, 3) := by decide +kernel
theorem dX2_resourceCost_10 : decode cX2_resourceCost 10 = .ok (.getfield 59, 3) := by decide +kernel
theorem dX2_resourceCost_13 : decode cX2_resourceCost 13 = .ok (.iload_n 1, 1) := by decide +kernel
theorem dX2_resourceCost_14 : decode cX2_resourceCost 14 = .ok (.invokevirtual 72, 3) := by decide +kernel
theorem dX2_resourceCost_17 : decode cX2_resourceCost 17 = .ok (.checkcast 200, 3) := by decide +kernel
theorem dX2_resourceCost_20 : decode cX2_resourceCost 20 = .ok (.getfield 202, 3) := by decide +kernel
theorem dX2_resourceCost_23 : decode cX2_resourceCost 23 = .ok (.i2l, 1) := by decide +kernel
theorem dX2_resourceCost_24 : decode cX2_resourceCost 24 = .ok (.lmul, 1) := by decide +kernel
theorem dX2_resourceCost_25 : decode cX2_resourceCost 25 = .ok (.lreturn, 1) := by decide +kernel
set_option maxRecDepth 20000 in
theorem ggX2_packsBought_Jx4a65c_get_915e3 : GoodIn wsX2_packsBought wsJx4a65c_get_915e3 := goodIn_r _ [13, 14, 15, 16, 17, 18, 19, 20, 21, 22, 23, 24, 25, 12, 26, 27, 48, 49, 50] (by decide +kernel) (by decide +kernel)
set_option maxRecDepth 20000 in
theorem gX2_packsBought_Jx4a65c_get_915e3 : GoodIn wsX2_packsBought (wsV RX2 72 RJx4a65c yJx4a65c_get_915e3 wsJx4a65c_get_915e3) := goodIn_app (goodIn_of _ (by decide +kernel)) ggX2_packsBought_Jx4a65c_get_915e3
theorem dX2_packsBought_0 : decode cX2_packsBought 0 = .ok (.aload_n 0, 1) := by decide +kernel
theorem dX2_packsBought_1 : decode cX2_packsBought 1 = .ok (.getfield 39, 3) := by decide +kernel
theorem dX2_packsBought_4 : decode cX2_packsBought 4 = .ok (.getfield 59, 3) := by decide +kernel
theorem dX2_packsBought_7 : decode cX2_packsBought 7 = .ok (.iload_n 1, 1) := by decide +kernel
theorem dX2_packsBought_8 : decode cX2_packsBought 8 = .ok (.invokevirtual 72, 3) := by decide +kernel
theorem dX2_packsBought_11 : decode cX2_packsBought 11 = .ok (.checkcast 200, 3) := by decide +kernel
theorem dX2_packsBought_14 : decode cX2_packsBought 14 = .ok (.astore_n 2, 1) := by decide +kernel
theorem dX2_packsBought_15 : decode cX2_packsBought 15 = .ok (.aload_n 2, 1) := by decide +kernel
theorem dX2_packsBought_16 : decode cX2_packsBought 16 = .ok (.getfield 205, 3) := by decide +kernel
theorem dX2_packsBought_19 : decode cX2_packsBought 19 = .ok (.iconst 1, 1) := by decide +kernel
theorem dX2_packsBought_20 : decode cX2_packsBought 20 = .ok (.if_icmp .ge 5, 3) := by decide +kernel
theorem dX2_packsBought_23 : decode cX2_packsBought 23 = .ok (.lconst 0, 1) := by decide +kernel
theorem dX2_packsBought_24 : decode cX2_packsBought 24 = .ok (.lreturn, 1) := by decide +kernel
theorem dX2_packsBought_25 : decode cX2_packsBought 25 = .ok (.aload_n 0, 1) := by decide +kernel
theorem dX2_packsBought_26 : decode cX2_packsBought 26 = .ok (.getfield 33, 3) := by decide +kernel
theorem dX2_packsBought_29 : decode cX2_packsBought 29 = .ok (.iload_n 1, 1) := by decide +kernel
theorem dX2_packsBought_30 : decode cX2_packsBought 30 = .ok (.laload, 1) := by decide +kernel
theorem dX2_packsBought_31 : decode cX2_packsBought 31 = .ok (.aload_n 2, 1) := by decide +kernel
theorem dX2_packsBought_32 : decode cX2_packsBought 32 = .ok (.getfield 208, 3) := by decide +kernel
theorem dX2_packsBought_35 : decode cX2_packsBought 35 = .ok (.i2l, 1) := by decide +kernel
theorem dX2_packsBought_36 : decode cX2_packsBought 36 = .ok (.lmul, 1) := by decide +kernel
theorem dX2_packsBought_37 : decode cX2_packsBought 37 = .ok (.ldc2_w 211, 3) := by decide +kernel
theorem dX2_packsBought_40 : decode cX2_packsBought 40 = .ok (.ladd, 1) := by decide +kernel
theorem dX2_packsBought_41 : decode cX2_packsBought 41 = .ok (.ldc2_w 190, 3) := by decide +kernel
theorem dX2_packsBought_44 : decode cX2_packsBought 44 = .ok (.ldiv, 1) := by decide +kernel
theorem dX2_packsBought_45 : decode cX2_packsBought 45 = .ok (.lstore_n 3, 1) := by decide +kernel
theorem dX2_packsBought_46 : decode cX2_packsBought 46 = .ok (.aload_n 0, 1) := by decide +kernel
theorem dX2_packsBought_47 : decode cX2_packsBought 47 = .ok (.getfield 33, 3) := by decide +kernel
theorem dX2_packsBought_50 : decode cX2_packsBought 50 = .ok (.iload_n 1, 1) := by decide +kernel
theorem dX2_packsBought_51 : decode cX2_packsBought 51 = .ok (.laload, 1) := by decide +kernel
theorem dX2_packsBought_52 : decode cX2_packsBought 52 = .ok (.lload_n 3, 1) := by decide +kernel
theorem dX2_packsBought_53 : decode cX2_packsBought 53 = .ok (.ladd, 1) := by decide +kernel
theorem dX2_packsBought_54 : decode cX2_packsBought 54 = .ok (.aload_n 2, 1) := by decide +kernel
theorem dX2_packsBought_55 : decode cX2_packsBought 55 = .ok (.getfield 205, 3) := by decide +kernel
theorem dX2_packsBought_58 : decode cX2_packsBought 58 = .ok (.i2l, 1) := by decide +kernel
theorem dX2_packsBought_59 : decode cX2_packsBought 59 = .ok (.ladd, 1) := by decide +kernel
theorem dX2_packsBought_60 : decode cX2_packsBought 60 = .ok (.lconst 1, 1) := by decide +kernel
theorem dX2_packsBought_61 : decode cX2_packsBought 61 = .ok (.lsub, 1) := by decide +kernel
theorem dX2_packsBought_62 : decode cX2_packsBought 62 = .ok (.aload_n 2, 1) := by decide +kernel
theorem dX2_packsBought_63 : decode cX2_packsBought 63 = .ok (.getfield 205, 3) := by decide +kernel
theorem dX2_packsBought_66 : decode cX2_packsBought 66 = .ok (.i2l, 1) := by decide +kernel
theorem dX2_packsBought_67 : decode cX2_packsBought 67 = .ok (.ldiv, 1) := by decide +kernel
theorem dX2_packsBought_68 : decode cX2_packsBought 68 = .ok (.lreturn, 1) := by decide +kernel
set_option maxRecDepth 20000 in
theorem ggX2_lineCost_Jx4a65c_get_915e3 : GoodIn wsX2_lineCost wsJx4a65c_get_915e3 := goodIn_r _ [12, 13, 14, 15, 16, 17, 18, 19, 20, 21, 22, 23, 24, 11, 25, 26, 57, 58, 59] (by decide +kernel) (by decide +kernel)
set_option maxRecDepth 20000 in
theorem gX2_lineCost_Jx4a65c_get_915e3 : GoodIn wsX2_lineCost (wsV RX2 72 RJx4a65c yJx4a65c_get_915e3 wsJx4a65c_get_915e3) := goodIn_app (goodIn_of _ (by decide +kernel)) ggX2_lineCost_Jx4a65c_get_915e3
set_option maxRecDepth 20000 in
theorem ggX2_lineCost_X2_costOfUnits : GoodIn wsX2_lineCost wsX2_costOfUnits := goodIn_ca (goodIn_r _ [31, 1, 32, 33, 34, 35, 36, 37, 11, 38, 13, 8, 9, 10, 12, 14, 15, 16, 17, 18, 19, 20, 21, 22, 23, 24, 25, 26, 39, 40, 41, 42, 43, 44, 45, 46, 47, 48, 49, 50, 51, 52, 53, 54, 60, 61, 62, 63, 57, 58, 59] (by decide +kernel) (by decide +kernel)) (goodIn_sub (fun _ h => List.mem_cons_of_mem _ (List.mem_append_right _ h)) (by decide +kernel))
set_option maxRecDepth 20000 in
theorem gX2_lineCost_X2_costOfUnits : GoodIn wsX2_lineCost (wsV RX2 213 RX2 yX2_costOfUnits wsX2_costOfUnits) := goodIn_app (goodIn_of _ (by decide +kernel)) ggX2_lineCost_X2_costOfUnits
theorem dX2_lineCost_0 : decode cX2_lineCost 0 = .ok (.aload_n 0, 1) := by decide +kernel
theorem dX2_lineCost_1 : decode cX2_lineCost 1 = .ok (.getfield 39, 3) := by decide +kernel
theorem dX2_lineCost_4 : decode cX2_lineCost 4 = .ok (.getfield 163, 3) := by decide +kernel
theorem dX2_lineCost_7 : decode cX2_lineCost 7 = .ok (.iload_n 1, 1) := by decide +kernel
theorem dX2_lineCost_8 : decode cX2_lineCost 8 = .ok (.invokevirtual 72, 3) := by decide +kernel
theorem dX2_lineCost_11 : decode cX2_lineCost 11 = .ok (.checkcast 166, 3) := by decide +kernel
theorem dX2_lineCost_14 : decode cX2_lineCost 14 = .ok (.astore_n 2, 1) := by decide +kernel
theorem dX2_lineCost_15 : decode cX2_lineCost 15 = .ok (.aload_n 2, 1) := by decide +kernel
theorem dX2_lineCost_16 : decode cX2_lineCost 16 = .ok (.getfield 171, 3) := by decide +kernel
theorem dX2_lineCost_19 : decode cX2_lineCost 19 = .ok (.i2l, 1) := by decide +kernel
theorem dX2_lineCost_20 : decode cX2_lineCost 20 = .ok (.aload_n 0, 1) := by decide +kernel
theorem dX2_lineCost_21 : decode cX2_lineCost 21 = .ok (.aload_n 0, 1) := by decide +kernel
theorem dX2_lineCost_22 : decode cX2_lineCost 22 = .ok (.getfield 26, 3) := by decide +kernel
theorem dX2_lineCost_25 : decode cX2_lineCost 25 = .ok (.aload_n 0, 1) := by decide +kernel
theorem dX2_lineCost_26 : decode cX2_lineCost 26 = .ok (.getfield 9, 3) := by decide +kernel
theorem dX2_lineCost_29 : decode cX2_lineCost 29 = .ok (.aload_n 2, 1) := by decide +kernel
theorem dX2_lineCost_30 : decode cX2_lineCost 30 = .ok (.getfield 168, 3) := by decide +kernel
theorem dX2_lineCost_33 : decode cX2_lineCost 33 = .ok (.iaload, 1) := by decide +kernel
theorem dX2_lineCost_34 : decode cX2_lineCost 34 = .ok (.aaload, 1) := by decide +kernel
theorem dX2_lineCost_35 : decode cX2_lineCost 35 = .ok (.invokevirtual 213, 3) := by decide +kernel
theorem dX2_lineCost_38 : decode cX2_lineCost 38 = .ok (.lmul, 1) := by decide +kernel
theorem dX2_lineCost_39 : decode cX2_lineCost 39 = .ok (.lreturn, 1) := by decide +kernel
set_option maxRecDepth 20000 in
theorem ggX2_tradeCost_Jx4a65c_size_8abf5 : GoodIn wsX2_tradeCost wsJx4a65c_size_8abf5 := goodIn_r _ [11, 12, 56, 57, 58] (by decide +kernel) (by decide +kernel)
set_option maxRecDepth 20000 in
theorem gX2_tradeCost_Jx4a65c_size_8abf5 : GoodIn wsX2_tradeCost (wsV RX2 49 RJx4a65c yJx4a65c_size_8abf5 wsJx4a65c_size_8abf5) := goodIn_app (goodIn_of _ (by decide +kernel)) ggX2_tradeCost_Jx4a65c_size_8abf5
set_option maxRecDepth 20000 in
theorem ggX2_tradeCost_Jx4a65c_get_915e3 : GoodIn wsX2_tradeCost wsJx4a65c_get_915e3 := goodIn_r _ [16, 12, 17, 18, 19, 20, 21, 22, 23, 24, 25, 26, 27, 10, 28, 29, 56, 57, 58] (by decide +kernel) (by decide +kernel)
set_option maxRecDepth 20000 in
theorem gX2_tradeCost_Jx4a65c_get_915e3 : GoodIn wsX2_tradeCost (wsV RX2 72 RJx4a65c yJx4a65c_get_915e3 wsJx4a65c_get_915e3) := goodIn_app (goodIn_of _ (by decide +kernel)) ggX2_tradeCost_Jx4a65c_get_915e3
set_option maxRecDepth 20000 in
theorem ggX2_tradeCost_X2_costOfUnits : GoodIn wsX2_tradeCost wsX2_costOfUnits := goodIn_ca (goodIn_r _ [34, 1, 35, 36, 37, 7, 8, 9, 10, 11, 12, 13, 14, 15, 16, 17, 18, 19, 20, 21, 22, 23, 24, 25, 26, 27, 28, 29, 38, 39, 40, 41, 42, 43, 44, 45, 46, 47, 48, 49, 50, 51, 52, 53, 59, 60, 61, 62, 56, 57, 58] (by decide +kernel) (by decide +kernel)) (goodIn_sub (fun _ h => List.mem_cons_of_mem _ (List.mem_append_right _ h)) (by decide +kernel))
set_option maxRecDepth 20000 in
theorem gX2_tradeCost_X2_costOfUnits : GoodIn wsX2_tradeCost (wsV RX2 213 RX2 yX2_costOfUnits wsX2_costOfUnits) := goodIn_app (goodIn_of _ (by decide +kernel)) ggX2_tradeCost_X2_costOfUnits
theorem dX2_tradeCost_0 : decode cX2_tradeCost 0 = .ok (.lconst 0, 1) := by decide +kernel
theorem dX2_tradeCost_1 : decode cX2_tradeCost 1 = .ok (.lstore_n 2, 1) := by decide +kernel
theorem dX2_tradeCost_2 : decode cX2_tradeCost 2 = .ok (.iconst 0, 1) := by decide +kernel
theorem dX2_tradeCost_3 : decode cX2_tradeCost 3 = .ok (.istore 4, 2) := by decide +kernel
theorem dX2_tradeCost_5 : decode cX2_tradeCost 5 = .ok (.iload 4, 2) := by decide +kernel
theorem dX2_tradeCost_7 : decode cX2_tradeCost 7 = .ok (.aload_n 0, 1) := by decide +kernel
theorem dX2_tradeCost_8 : decode cX2_tradeCost 8 = .ok (.getfield 39, 3) := by decide +kernel
theorem dX2_tradeCost_11 : decode cX2_tradeCost 11 = .ok (.getfield 43, 3) := by decide +kernel
theorem dX2_tradeCost_14 : decode cX2_tradeCost 14 = .ok (.invokevirtual 49, 3) := by decide +kernel
theorem dX2_tradeCost_17 : decode cX2_tradeCost 17 = .ok (.if_icmp .ge 53, 3) := by decide +kernel
theorem dX2_tradeCost_20 : decode cX2_tradeCost 20 = .ok (.aload_n 0, 1) := by decide +kernel
theorem dX2_tradeCost_21 : decode cX2_tradeCost 21 = .ok (.getfield 39, 3) := by decide +kernel
theorem dX2_tradeCost_24 : decode cX2_tradeCost 24 = .ok (.getfield 43, 3) := by decide +kernel
theorem dX2_tradeCost_27 : decode cX2_tradeCost 27 = .ok (.iload 4, 2) := by decide +kernel
theorem dX2_tradeCost_29 : decode cX2_tradeCost 29 = .ok (.invokevirtual 72, 3) := by decide +kernel
theorem dX2_tradeCost_32 : decode cX2_tradeCost 32 = .ok (.checkcast 98, 3) := by decide +kernel
theorem dX2_tradeCost_35 : decode cX2_tradeCost 35 = .ok (.getfield 217, 3) := by decide +kernel
theorem dX2_tradeCost_38 : decode cX2_tradeCost 38 = .ok (.iload_n 1, 1) := by decide +kernel
theorem dX2_tradeCost_39 : decode cX2_tradeCost 39 = .ok (.if_icmp .ne 25, 3) := by decide +kernel
theorem dX2_tradeCost_42 : decode cX2_tradeCost 42 = .ok (.lload_n 2, 1) := by decide +kernel
theorem dX2_tradeCost_43 : decode cX2_tradeCost 43 = .ok (.aload_n 0, 1) := by decide +kernel
theorem dX2_tradeCost_44 : decode cX2_tradeCost 44 = .ok (.getfield 29, 3) := by decide +kernel
theorem dX2_tradeCost_47 : decode cX2_tradeCost 47 = .ok (.iload 4, 2) := by decide +kernel
theorem dX2_tradeCost_49 : decode cX2_tradeCost 49 = .ok (.laload, 1) := by decide +kernel
theorem dX2_tradeCost_50 : decode cX2_tradeCost 50 = .ok (.aload_n 0, 1) := by decide +kernel
theorem dX2_tradeCost_51 : decode cX2_tradeCost 51 = .ok (.aload_n 0, 1) := by decide +kernel
theorem dX2_tradeCost_52 : decode cX2_tradeCost 52 = .ok (.getfield 23, 3) := by decide +kernel
theorem dX2_tradeCost_55 : decode cX2_tradeCost 55 = .ok (.iload 4, 2) := by decide +kernel
theorem dX2_tradeCost_57 : decode cX2_tradeCost 57 = .ok (.aaload, 1) := by decide +kernel
theorem dX2_tradeCost_58 : decode cX2_tradeCost 58 = .ok (.invokevirtual 213, 3) := by decide +kernel
theorem dX2_tradeCost_61 : decode cX2_tradeCost 61 = .ok (.lmul, 1) := by decide +kernel
theorem dX2_tradeCost_62 : decode cX2_tradeCost 62 = .ok (.ladd, 1) := by decide +kernel
theorem dX2_tradeCost_63 : decode cX2_tradeCost 63 = .ok (.lstore_n 2, 1) := by decide +kernel
theorem dX2_tradeCost_64 : decode cX2_tradeCost 64 = .ok (.iinc 4 1, 3) := by decide +kernel
theorem dX2_tradeCost_67 : decode cX2_tradeCost 67 = .ok (.goto (-62), 3) := by decide +kernel
theorem dX2_tradeCost_70 : decode cX2_tradeCost 70 = .ok (.lload_n 2, 1) := by decide +kernel
theorem dX2_tradeCost_71 : decode cX2_tradeCost 71 = .ok (.lreturn, 1) := by decide +kernel
set_option maxRecDepth 20000 in
theorem ggX2_kindCost_Jx4a65c_size_8abf5 : GoodIn wsX2_kindCost wsJx4a65c_size_8abf5 := goodIn_r _ [11, 12, 50, 51, 52] (by decide +kernel) (by decide +kernel)
set_option maxRecDepth 20000 in
theorem gX2_kindCost_Jx4a65c_size_8abf5 : GoodIn wsX2_kindCost (wsV RX2 49 RJx4a65c yJx4a65c_size_8abf5 wsJx4a65c_size_8abf5) := goodIn_app (goodIn_of _ (by decide +kernel)) ggX2_kindCost_Jx4a65c_size_8abf5
set_option maxRecDepth 20000 in
theorem ggX2_kindCost_Jx4a65c_get_915e3 : GoodIn wsX2_kindCost wsJx4a65c_get_915e3 := goodIn_r _ [16, 12, 17, 18, 19, 20, 21, 22, 23, 24, 25, 26, 27, 10, 28, 29, 50, 51, 52] (by decide +kernel) (by decide +kernel)
set_option maxRecDepth 20000 in
theorem gX2_kindCost_Jx4a65c_get_915e3 : GoodIn wsX2_kindCost (wsV RX2 72 RJx4a65c yJx4a65c_get_915e3 wsJx4a65c_get_915e3) := goodIn_app (goodIn_of _ (by decide +kernel)) ggX2_kindCost_Jx4a65c_get_915e3
theorem dX2_kindCost_0 : decode cX2_kindCost 0 = .ok (.lconst 0, 1) := by decide +kernel
theorem dX2_kindCost_1 : decode cX2_kindCost 1 = .ok (.lstore_n 2, 1) := by decide +kernel
theorem dX2_kindCost_2 : decode cX2_kindCost 2 = .ok (.iconst 0, 1) := by decide +kernel
theorem dX2_kindCost_3 : decode cX2_kindCost 3 = .ok (.istore 4, 2) := by decide +kernel
theorem dX2_kindCost_5 : decode cX2_kindCost 5 = .ok (.iload 4, 2) := by decide +kernel
theorem dX2_kindCost_7 : decode cX2_kindCost 7 = .ok (.aload_n 0, 1) := by decide +kernel
theorem dX2_kindCost_8 : decode cX2_kindCost 8 = .ok (.getfield 39, 3) := by decide +kernel
theorem dX2_kindCost_11 : decode cX2_kindCost 11 = .ok (.getfield 59, 3) := by decide +kernel
theorem dX2_kindCost_14 : decode cX2_kindCost 14 = .ok (.invokevirtual 49, 3) := by decide +kernel
theorem dX2_kindCost_17 : decode cX2_kindCost 17 = .ok (.if_icmp .ge 52, 3) := by decide +kernel
theorem dX2_kindCost_20 : decode cX2_kindCost 20 = .ok (.aload_n 0, 1) := by decide +kernel
theorem dX2_kindCost_21 : decode cX2_kindCost 21 = .ok (.getfield 39, 3) := by decide +kernel
theorem dX2_kindCost_24 : decode cX2_kindCost 24 = .ok (.getfield 59, 3) := by decide +kernel
theorem dX2_kindCost_27 : decode cX2_kindCost 27 = .ok (.iload 4, 2) := by decide +kernel
theorem dX2_kindCost_29 : decode cX2_kindCost 29 = .ok (.invokevirtual 72, 3) := by decide +kernel
theorem dX2_kindCost_32 : decode cX2_kindCost 32 = .ok (.checkcast 200, 3) := by decide +kernel
theorem dX2_kindCost_35 : decode cX2_kindCost 35 = .ok (.astore 5, 2) := by decide +kernel
theorem dX2_kindCost_37 : decode cX2_kindCost 37 = .ok (.aload 5, 2) := by decide +kernel
theorem dX2_kindCost_39 : decode cX2_kindCost 39 = .ok (.getfield 220, 3) := by decide +kernel
theorem dX2_kindCost_42 : decode cX2_kindCost 42 = .ok (.iload_n 1, 1) := by decide +kernel
theorem dX2_kindCost_43 : decode cX2_kindCost 43 = .ok (.if_icmp .ne 20, 3) := by decide +kernel
theorem dX2_kindCost_46 : decode cX2_kindCost 46 = .ok (.lload_n 2, 1) := by decide +kernel
theorem dX2_kindCost_47 : decode cX2_kindCost 47 = .ok (.aload_n 0, 1) := by decide +kernel
theorem dX2_kindCost_48 : decode cX2_kindCost 48 = .ok (.getfield 33, 3) := by decide +kernel
theorem dX2_kindCost_51 : decode cX2_kindCost 51 = .ok (.iload 4, 2) := by decide +kernel
theorem dX2_kindCost_53 : decode cX2_kindCost 53 = .ok (.laload, 1) := by decide +kernel
theorem dX2_kindCost_54 : decode cX2_kindCost 54 = .ok (.aload 5, 2) := by decide +kernel
theorem dX2_kindCost_56 : decode cX2_kindCost 56 = .ok (.getfield 202, 3) := by decide +kernel
theorem dX2_kindCost_59 : decode cX2_kindCost 59 = .ok (.i2l, 1) := by decide +kernel
theorem dX2_kindCost_60 : decode cX2_kindCost 60 = .ok (.lmul, 1) := by decide +kernel
theorem dX2_kindCost_61 : decode cX2_kindCost 61 = .ok (.ladd, 1) := by decide +kernel
theorem dX2_kindCost_62 : decode cX2_kindCost 62 = .ok (.lstore_n 2, 1) := by decide +kernel
theorem dX2_kindCost_63 : decode cX2_kindCost 63 = .ok (.iinc 4 1, 3) := by decide +kernel
theorem dX2_kindCost_66 : decode cX2_kindCost 66 = .ok (.goto (-61), 3) := by decide +kernel
theorem dX2_kindCost_69 : decode cX2_kindCost 69 = .ok (.lload_n 2, 1) := by decide +kernel
theorem dX2_kindCost_70 : decode cX2_kindCost 70 = .ok (.lreturn, 1) := by decide +kernel
set_option maxRecDepth 20000 in
theorem ggX2_netCost_X2_costOfUnits : GoodIn wsX2_netCost wsX2_costOfUnits := goodIn_ca (goodIn_r _ [6, 7, 8, 9, 10, 11, 12, 13, 14, 15, 16, 17, 18, 19, 20, 21, 22, 23, 24, 25, 26, 27, 28, 29, 30, 31, 32, 33, 34, 35, 36, 37, 38, 39, 40, 41, 42, 43, 44, 45, 46, 47, 48, 49, 50, 51, 52, 53, 54, 55, 56] (by decide +kernel) (by decide +kernel)) (goodIn_sub (fun _ h => List.mem_cons_of_mem _ (List.mem_append_right _ h)) (by decide +kernel))
set_option maxRecDepth 20000 in
theorem gX2_netCost_X2_costOfUnits : GoodIn wsX2_netCost (wsV RX2 213 RX2 yX2_costOfUnits wsX2_costOfUnits) := goodIn_app (goodIn_of _ (by decide +kernel)) ggX2_netCost_X2_costOfUnits
theorem dX2_netCost_0 : decode cX2_netCost 0 = .ok (.aload_n 0, 1) := by decide +kernel
theorem dX2_netCost_1 : decode cX2_netCost 1 = .ok (.aload_n 0, 1) := by decide +kernel
theorem dX2_netCost_2 : decode cX2_netCost 2 = .ok (.getfield 33, 3) := by decide +kernel
theorem dX2_netCost_5 : decode cX2_netCost 5 = .ok (.invokevirtual 213, 3) := by decide +kernel
theorem dX2_netCost_8 : decode cX2_netCost 8 = .ok (.lreturn, 1) := by decide +kernel
set_option maxRecDepth 20000 in
theorem ggX2_extraCost_Jx4a65c_size_8abf5 : GoodIn wsX2_extraCost wsJx4a65c_size_8abf5 := goodIn_r _ [11, 12, 58, 59, 60] (by decide +kernel) (by decide +kernel)
set_option maxRecDepth 20000 in
theorem gX2_extraCost_Jx4a65c_size_8abf5 : GoodIn wsX2_extraCost (wsV RX2 49 RJx4a65c yJx4a65c_size_8abf5 wsJx4a65c_size_8abf5) := goodIn_app (goodIn_of _ (by decide +kernel)) ggX2_extraCost_Jx4a65c_size_8abf5
set_option maxRecDepth 20000 in
theorem ggX2_extraCost_Jx4a65c_get_915e3 : GoodIn wsX2_extraCost wsJx4a65c_get_915e3 := goodIn_r _ [16, 12, 17, 18, 19, 20, 21, 22, 23, 24, 25, 26, 27, 10, 28, 29, 58, 59, 60] (by decide +kernel) (by decide +kernel)
set_option maxRecDepth 20000 in
theorem gX2_extraCost_Jx4a65c_get_915e3 : GoodIn wsX2_extraCost (wsV RX2 72 RJx4a65c yJx4a65c_get_915e3 wsJx4a65c_get_915e3) := goodIn_app (goodIn_of _ (by decide +kernel)) ggX2_extraCost_Jx4a65c_get_915e3
set_option maxRecDepth 20000 in
theorem ggX2_extraCost_X2_packsBought : GoodIn wsX2_extraCost wsX2_packsBought := goodIn_ca (goodIn_ca (goodIn_r _ [34, 1, 2, 3, 4, 5, 35, 36, 37, 13, 14, 15, 10, 16, 12, 17, 18, 19, 20, 21, 22, 23, 24, 25, 26, 27, 28, 29, 38, 39, 40, 41, 42, 43, 44, 45, 46, 47, 48, 49, 50, 51, 52, 53, 54, 55, 56, 57, 58, 59, 60] (by decide +kernel) (by decide +kernel)) (goodIn_sub (fun _ h => List.mem_cons_of_mem _ (List.mem_append_left _ (List.mem_append_right _ h))) (by decide +kernel))) (goodIn_sub (fun _ h => List.mem_cons_of_mem _ (List.mem_append_right _ h)) (by decide +kernel))
set_option maxRecDepth 20000 in
theorem gX2_extraCost_X2_packsBought : GoodIn wsX2_extraCost (wsV RX2 223 RX2 yX2_packsBought wsX2_packsBought) := goodIn_app (goodIn_of _ (by decide +kernel)) ggX2_extraCost_X2_packsBought
theorem dX2_extraCost_0 : decode cX2_extraCost 0 = .ok (.lconst 0, 1) := by decide +kernel
theorem dX2_extraCost_1 : decode cX2_extraCost 1 = .ok (.lstore_n 1, 1) := by decide +kernel
theorem dX2_extraCost_2 : decode cX2_extraCost 2 = .ok (.iconst 0, 1) := by decide +kernel
theorem dX2_extraCost_3 : decode cX2_extraCost 3 = .ok (.istore_n 3, 1) := by decide +kernel
theorem dX2_extraCost_4 : decode cX2_extraCost 4 = .ok (.iload_n 3, 1) := by decide +kernel
theorem dX2_extraCost_5 : decode cX2_extraCost 5 = .ok (.aload_n 0, 1) := by decide +kernel
theorem dX2_extraCost_6 : decode cX2_extraCost 6 = .ok (.getfield 39, 3) := by decide +kernel
theorem dX2_extraCost_9 : decode cX2_extraCost 9 = .ok (.getfield 59, 3) := by decide +kernel
theorem dX2_extraCost_12 : decode cX2_extraCost 12 = .ok (.invokevirtual 49, 3) := by decide +kernel
theorem dX2_extraCost_15 : decode cX2_extraCost 15 = .ok (.if_icmp .ge 58, 3) := by decide +kernel
theorem dX2_extraCost_18 : decode cX2_extraCost 18 = .ok (.aload_n 0, 1) := by decide +kernel
theorem dX2_extraCost_19 : decode cX2_extraCost 19 = .ok (.getfield 39, 3) := by decide +kernel
theorem dX2_extraCost_22 : decode cX2_extraCost 22 = .ok (.getfield 59, 3) := by decide +kernel
theorem dX2_extraCost_25 : decode cX2_extraCost 25 = .ok (.iload_n 3, 1) := by decide +kernel
theorem dX2_extraCost_26 : decode cX2_extraCost 26 = .ok (.invokevirtual 72, 3) := by decide +kernel
theorem dX2_extraCost_29 : decode cX2_extraCost 29 = .ok (.checkcast 200, 3) := by decide +kernel
theorem dX2_extraCost_32 : decode cX2_extraCost 32 = .ok (.astore 4, 2) := by decide +kernel
theorem dX2_extraCost_34 : decode cX2_extraCost 34 = .ok (.aload_n 0, 1) := by decide +kernel
theorem dX2_extraCost_35 : decode cX2_extraCost 35 = .ok (.iload_n 3, 1) := by decide +kernel
theorem dX2_extraCost_36 : decode cX2_extraCost 36 = .ok (.invokevirtual 223, 3) := by decide +kernel
theorem dX2_extraCost_39 : decode cX2_extraCost 39 = .ok (.aload 4, 2) := by decide +kernel
theorem dX2_extraCost_41 : decode cX2_extraCost 41 = .ok (.getfield 205, 3) := by decide +kernel
theorem dX2_extraCost_44 : decode cX2_extraCost 44 = .ok (.i2l, 1) := by decide +kernel
theorem dX2_extraCost_45 : decode cX2_extraCost 45 = .ok (.lmul, 1) := by decide +kernel
theorem dX2_extraCost_46 : decode cX2_extraCost 46 = .ok (.lstore 5, 2) := by decide +kernel
theorem dX2_extraCost_48 : decode cX2_extraCost 48 = .ok (.lload_n 1, 1) := by decide +kernel
theorem dX2_extraCost_49 : decode cX2_extraCost 49 = .ok (.lload 5, 2) := by decide +kernel
theorem dX2_extraCost_51 : decode cX2_extraCost 51 = .ok (.aload_n 0, 1) := by decide +kernel
theorem dX2_extraCost_52 : decode cX2_extraCost 52 = .ok (.getfield 33, 3) := by decide +kernel
theorem dX2_extraCost_55 : decode cX2_extraCost 55 = .ok (.iload_n 3, 1) := by decide +kernel
theorem dX2_extraCost_56 : decode cX2_extraCost 56 = .ok (.laload, 1) := by decide +kernel
theorem dX2_extraCost_57 : decode cX2_extraCost 57 = .ok (.lsub, 1) := by decide +kernel
theorem dX2_extraCost_58 : decode cX2_extraCost 58 = .ok (.aload 4, 2) := by decide +kernel
theorem dX2_extraCost_60 : decode cX2_extraCost 60 = .ok (.getfield 202, 3) := by decide +kernel
theorem dX2_extraCost_63 : decode cX2_extraCost 63 = .ok (.i2l, 1) := by decide +kernel
theorem dX2_extraCost_64 : decode cX2_extraCost 64 = .ok (.lmul, 1) := by decide +kernel
theorem dX2_extraCost_65 : decode cX2_extraCost 65 = .ok (.ladd, 1) := by decide +kernel
theorem dX2_extraCost_66 : decode cX2_extraCost 66 = .ok (.lstore_n 1, 1) := by decide +kernel
theorem dX2_extraCost_67 : decode cX2_extraCost 67 = .ok (.iinc 3 1, 3) := by decide +kernel
theorem dX2_extraCost_70 : decode cX2_extraCost 70 = .ok (.goto (-66), 3) := by decide +kernel
theorem dX2_extraCost_73 : decode cX2_extraCost 73 = .ok (.lload_n 1, 1) := by decide +kernel
theorem dX2_extraCost_74 : decode cX2_extraCost 74 = .ok (.lreturn, 1) := by decide +kernel
set_option maxRecDepth 20000 in
theorem ggX2_totalCost_X2_netCost : GoodIn wsX2_totalCost wsX2_netCost := goodIn_ca (goodIn_r _ [8, 9, 10, 11, 12, 7, 13, 1, 14, 15, 16, 17, 18, 19, 20, 21, 22, 23, 24, 25, 26, 27, 28, 29, 30, 31, 32, 33, 34, 35, 36, 37, 38, 39, 52, 53, 54, 55, 56, 57, 58, 59, 60, 61, 62, 63, 64, 65, 66, 67, 68, 69, 70, 71, 72, 73, 74] (by decide +kernel) (by decide +kernel)) (goodIn_sub (fun _ h => List.mem_cons_of_mem _ (List.mem_append_left _ (List.mem_append_right _ h))) (by decide +kernel))
set_option maxRecDepth 20000 in
theorem gX2_totalCost_X2_netCost : GoodIn wsX2_totalCost (wsV RX2 226 RX2 yX2_netCost wsX2_netCost) := goodIn_app (goodIn_of _ (by decide +kernel)) ggX2_totalCost_X2_netCost
set_option maxRecDepth 20000 in
theorem ggX2_totalCost_X2_extraCost : GoodIn wsX2_totalCost wsX2_extraCost := goodIn_ca (goodIn_ca (goodIn_r _ [43, 1, 14, 15, 44, 9, 16, 17, 18, 19, 20, 21, 22, 23, 24, 25, 26, 27, 28, 29, 30, 31, 32, 33, 34, 35, 36, 37, 38, 39, 45, 46, 47, 7, 48, 49, 50, 51, 52, 53, 54, 55, 56, 57, 58, 59, 60, 61, 62, 63, 64, 65, 66, 67, 68, 69, 70, 71, 72, 73, 74] (by decide +kernel) (by decide +kernel)) (goodIn_sub (fun _ h => List.mem_cons_of_mem _ (List.mem_append_left _ (List.mem_append_right _ h))) (by decide +kernel))) (goodIn_sub (fun _ h => List.mem_cons_of_mem _ (List.mem_append_right _ h)) (by decide +kernel))
set_option maxRecDepth 20000 in
theorem gX2_totalCost_X2_extraCost : GoodIn wsX2_totalCost (wsV RX2 196 RX2 yX2_extraCost wsX2_extraCost) := goodIn_app (goodIn_of _ (by decide +kernel)) ggX2_totalCost_X2_extraCost
set_option maxRecDepth 20000 in
theorem ggX2_totalCost_Jx4a65c_size_8abf5 : GoodIn wsX2_totalCost wsJx4a65c_size_8abf5 := goodIn_r _ [21, 22, 72, 73, 74] (by decide +kernel) (by decide +kernel)
set_option maxRecDepth 20000 in
theorem gX2_totalCost_Jx4a65c_size_8abf5 : GoodIn wsX2_totalCost (wsV RX2 49 RJx4a65c yJx4a65c_size_8abf5 wsJx4a65c_size_8abf5) := goodIn_app (goodIn_of _ (by decide +kernel)) ggX2_totalCost_Jx4a65c_size_8abf5
theorem dX2_totalCost_0 : decode cX2_totalCost 0 = .ok (.aload_n 0, 1) := by decide +kernel
theorem dX2_totalCost_1 : decode cX2_totalCost 1 = .ok (.invokevirtual 226, 3) := by decide +kernel
theorem dX2_totalCost_4 : decode cX2_totalCost 4 = .ok (.aload_n 0, 1) := by decide +kernel
theorem dX2_totalCost_5 : decode cX2_totalCost 5 = .ok (.invokevirtual 196, 3) := by decide +kernel
theorem dX2_totalCost_8 : decode cX2_totalCost 8 = .ok (.ladd, 1) := by decide +kernel
theorem dX2_totalCost_9 : decode cX2_totalCost 9 = .ok (.lstore_n 1, 1) := by decide +kernel
theorem dX2_totalCost_10 : decode cX2_totalCost 10 = .ok (.iconst 0, 1) := by decide +kernel
theorem dX2_totalCost_11 : decode cX2_totalCost 11 = .ok (.istore_n 3, 1) := by decide +kernel
theorem dX2_totalCost_12 : decode cX2_totalCost 12 = .ok (.iload_n 3, 1) := by decide +kernel
theorem dX2_totalCost_13 : decode cX2_totalCost 13 = .ok (.aload_n 0, 1) := by decide +kernel
theorem dX2_totalCost_14 : decode cX2_totalCost 14 = .ok (.getfield 39, 3) := by decide +kernel
theorem dX2_totalCost_17 : decode cX2_totalCost 17 = .ok (.getfield 175, 3) := by decide +kernel
theorem dX2_totalCost_20 : decode cX2_totalCost 20 = .ok (.invokevirtual 49, 3) := by decide +kernel
theorem dX2_totalCost_23 : decode cX2_totalCost 23 = .ok (.if_icmp .ge 18, 3) := by decide +kernel
theorem dX2_totalCost_26 : decode cX2_totalCost 26 = .ok (.lload_n 1, 1) := by decide +kernel
theorem dX2_totalCost_27 : decode cX2_totalCost 27 = .ok (.aload_n 0, 1) := by decide +kernel
theorem dX2_totalCost_28 : decode cX2_totalCost 28 = .ok (.getfield 36, 3) := by decide +kernel
theorem dX2_totalCost_31 : decode cX2_totalCost 31 = .ok (.iload_n 3, 1) := by decide +kernel
theorem dX2_totalCost_32 : decode cX2_totalCost 32 = .ok (.laload, 1) := by decide +kernel
theorem dX2_totalCost_33 : decode cX2_totalCost 33 = .ok (.ladd, 1) := by decide +kernel
theorem dX2_totalCost_34 : decode cX2_totalCost 34 = .ok (.lstore_n 1, 1) := by decide +kernel
theorem dX2_totalCost_35 : decode cX2_totalCost 35 = .ok (.iinc 3 1, 3) := by decide +kernel
theorem dX2_totalCost_38 : decode cX2_totalCost 38 = .ok (.goto (-26), 3) := by decide +kernel
theorem dX2_totalCost_41 : decode cX2_totalCost 41 = .ok (.lload_n 1, 1) := by decide +kernel
theorem dX2_totalCost_42 : decode cX2_totalCost 42 = .ok (.lreturn, 1) := by decide +kernel
set_option maxRecDepth 20000 in
theorem ggX2_rankOf_X2_resourceCost : GoodIn wsX2_rankOf wsX2_resourceCost := goodIn_ca (goodIn_r _ [7, 8, 1, 2, 9, 10, 11, 12, 13, 14, 15, 16, 17, 18, 19, 20, 21, 22, 23, 24, 25, 26, 27, 28, 29, 34, 35, 36, 37, 38, 39, 40, 41, 42, 43, 44, 45, 46, 47, 48, 49, 50, 51, 52, 53, 54, 55, 56] (by decide +kernel) (by decide +kernel)) (goodIn_sub (fun _ h => List.mem_cons_of_mem _ (List.mem_append_right _ h)) (by decide +kernel))
set_option maxRecDepth 20000 in
theorem gX2_rankOf_X2_resourceCost : GoodIn wsX2_rankOf (wsV RX2 229 RX2 yX2_resourceCost wsX2_resourceCost) := goodIn_app (goodIn_of _ (by decide +kernel)) ggX2_rankOf_X2_resourceCost
set_option maxRecDepth 20000 in
theorem ggX2_rankOf_Jx4a65c_size_8abf5 : GoodIn wsX2_rankOf wsJx4a65c_size_8abf5 := goodIn_r _ [33, 16, 54, 55, 56] (by decide +kernel) (by decide +kernel)
set_option maxRecDepth 20000 in
theorem gX2_rankOf_Jx4a65c_size_8abf5 : GoodIn wsX2_rankOf (wsV RX2 49 RJx4a65c yJx4a65c_size_8abf5 wsJx4a65c_size_8abf5) := goodIn_app (goodIn_of _ (by decide +kernel)) ggX2_rankOf_Jx4a65c_size_8abf5
theorem dX2_rankOf_0 : decode cX2_rankOf 0 = .ok (.aload_n 0, 1) := by decide +kernel
theorem dX2_rankOf_1 : decode cX2_rankOf 1 = .ok (.iload_n 1, 1) := by decide +kernel
theorem dX2_rankOf_2 : decode cX2_rankOf 2 = .ok (.invokevirtual 229, 3) := by decide +kernel
theorem dX2_rankOf_5 : decode cX2_rankOf 5 = .ok (.lstore_n 2, 1) := by decide +kernel
theorem dX2_rankOf_6 : decode cX2_rankOf 6 = .ok (.iconst 0, 1) := by decide +kernel
theorem dX2_rankOf_7 : decode cX2_rankOf 7 = .ok (.istore 4, 2) := by decide +kernel
theorem dX2_rankOf_9 : decode cX2_rankOf 9 = .ok (.iconst 0, 1) := by decide +kernel
theorem dX2_rankOf_10 : decode cX2_rankOf 10 = .ok (.istore 5, 2) := by decide +kernel
theorem dX2_rankOf_12 : decode cX2_rankOf 12 = .ok (.iload 5, 2) := by decide +kernel
theorem dX2_rankOf_14 : decode cX2_rankOf 14 = .ok (.aload_n 0, 1) := by decide +kernel
theorem dX2_rankOf_15 : decode cX2_rankOf 15 = .ok (.getfield 39, 3) := by decide +kernel
theorem dX2_rankOf_18 : decode cX2_rankOf 18 = .ok (.getfield 59, 3) := by decide +kernel
theorem dX2_rankOf_21 : decode cX2_rankOf 21 = .ok (.invokevirtual 49, 3) := by decide +kernel
theorem dX2_rankOf_24 : decode cX2_rankOf 24 = .ok (.if_icmp .ge 40, 3) := by decide +kernel
theorem dX2_rankOf_27 : decode cX2_rankOf 27 = .ok (.aload_n 0, 1) := by decide +kernel
theorem dX2_rankOf_28 : decode cX2_rankOf 28 = .ok (.iload 5, 2) := by decide +kernel
theorem dX2_rankOf_30 : decode cX2_rankOf 30 = .ok (.invokevirtual 229, 3) := by decide +kernel
theorem dX2_rankOf_33 : decode cX2_rankOf 33 = .ok (.lstore 6, 2) := by decide +kernel
theorem dX2_rankOf_35 : decode cX2_rankOf 35 = .ok (.lload 6, 2) := by decide +kernel
theorem dX2_rankOf_37 : decode cX2_rankOf 37 = .ok (.lload_n 2, 1) := by decide +kernel
theorem dX2_rankOf_38 : decode cX2_rankOf 38 = .ok (.lcmp, 1) := by decide +kernel
theorem dX2_rankOf_39 : decode cX2_rankOf 39 = .ok (.ifCond .gt 16, 3) := by decide +kernel
theorem dX2_rankOf_42 : decode cX2_rankOf 42 = .ok (.lload 6, 2) := by decide +kernel
theorem dX2_rankOf_44 : decode cX2_rankOf 44 = .ok (.lload_n 2, 1) := by decide +kernel
theorem dX2_rankOf_45 : decode cX2_rankOf 45 = .ok (.lcmp, 1) := by decide +kernel
theorem dX2_rankOf_46 : decode cX2_rankOf 46 = .ok (.ifCond .ne 12, 3) := by decide +kernel
theorem dX2_rankOf_49 : decode cX2_rankOf 49 = .ok (.iload 5, 2) := by decide +kernel
theorem dX2_rankOf_51 : decode cX2_rankOf 51 = .ok (.iload_n 1, 1) := by decide +kernel
theorem dX2_rankOf_52 : decode cX2_rankOf 52 = .ok (.if_icmp .ge 6, 3) := by decide +kernel
theorem dX2_rankOf_55 : decode cX2_rankOf 55 = .ok (.iinc 4 1, 3) := by decide +kernel
theorem dX2_rankOf_58 : decode cX2_rankOf 58 = .ok (.iinc 5 1, 3) := by decide +kernel
theorem dX2_rankOf_61 : decode cX2_rankOf 61 = .ok (.goto (-49), 3) := by decide +kernel
theorem dX2_rankOf_64 : decode cX2_rankOf 64 = .ok (.iload 4, 2) := by decide +kernel
theorem dX2_rankOf_66 : decode cX2_rankOf 66 = .ok (.ireturn, 1) := by decide +kernel
set_option maxRecDepth 20000 in
theorem ggX2_costOfAllLines_Jx4a65c_size_8abf5 : GoodIn wsX2_costOfAllLines wsJx4a65c_size_8abf5 := goodIn_r _ [7, 8, 59, 60, 61] (by decide +kernel) (by decide +kernel)
set_option maxRecDepth 20000 in
theorem gX2_costOfAllLines_Jx4a65c_size_8abf5 : GoodIn wsX2_costOfAllLines (wsV RX2 49 RJx4a65c yJx4a65c_size_8abf5 wsJx4a65c_size_8abf5) := goodIn_app (goodIn_of _ (by decide +kernel)) ggX2_costOfAllLines_Jx4a65c_size_8abf5
set_option maxRecDepth 20000 in
theorem ggX2_costOfAllLines_X2_lineCost : GoodIn wsX2_costOfAllLines wsX2_lineCost := goodIn_ca (goodIn_r _ [13, 1, 2, 14, 15, 16, 17, 18, 19, 20, 21, 6, 22, 8, 23, 24, 25, 26, 27, 28, 29, 30, 31, 32, 33, 34, 35, 36, 37, 38, 12, 39, 40, 41, 42, 3, 4, 5, 7, 43, 44, 45, 46, 47, 48, 49, 50, 51, 52, 53, 54, 55, 56, 57, 58, 62, 63, 59, 60, 61, 64, 65, 66, 67] (by decide +kernel) (by decide +kernel)) (goodIn_sub (fun _ h => List.mem_cons_of_mem _ (List.mem_append_right _ h)) (by decide +kernel))
set_option maxRecDepth 20000 in
theorem gX2_costOfAllLines_X2_lineCost : GoodIn wsX2_costOfAllLines (wsV RX2 232 RX2 yX2_lineCost wsX2_lineCost) := goodIn_app (goodIn_of _ (by decide +kernel)) ggX2_costOfAllLines_X2_lineCost
theorem dX2_costOfAllLines_0 : decode cX2_costOfAllLines 0 = .ok (.lconst 0, 1) := by decide +kernel
theorem dX2_costOfAllLines_1 : decode cX2_costOfAllLines 1 = .ok (.lstore_n 1, 1) := by decide +kernel
theorem dX2_costOfAllLines_2 : decode cX2_costOfAllLines 2 = .ok (.iconst 0, 1) := by decide +kernel
theorem dX2_costOfAllLines_3 : decode cX2_costOfAllLines 3 = .ok (.istore_n 3, 1) := by decide +kernel
theorem dX2_costOfAllLines_4 : decode cX2_costOfAllLines 4 = .ok (.iload_n 3, 1) := by decide +kernel
theorem dX2_costOfAllLines_5 : decode cX2_costOfAllLines 5 = .ok (.aload_n 0, 1) := by decide +kernel
theorem dX2_costOfAllLines_6 : decode cX2_costOfAllLines 6 = .ok (.getfield 39, 3) := by decide +kernel
theorem dX2_costOfAllLines_9 : decode cX2_costOfAllLines 9 = .ok (.getfield 163, 3) := by decide +kernel
theorem dX2_costOfAllLines_12 : decode cX2_costOfAllLines 12 = .ok (.invokevirtual 49, 3) := by decide +kernel
theorem dX2_costOfAllLines_15 : decode cX2_costOfAllLines 15 = .ok (.if_icmp .ge 17, 3) := by decide +kernel
theorem dX2_costOfAllLines_18 : decode cX2_costOfAllLines 18 = .ok (.lload_n 1, 1) := by decide +kernel
theorem dX2_costOfAllLines_19 : decode cX2_costOfAllLines 19 = .ok (.aload_n 0, 1) := by decide +kernel
theorem dX2_costOfAllLines_20 : decode cX2_costOfAllLines 20 = .ok (.iload_n 3, 1) := by decide +kernel
theorem dX2_costOfAllLines_21 : decode cX2_costOfAllLines 21 = .ok (.invokevirtual 232, 3) := by decide +kernel
theorem dX2_costOfAllLines_24 : decode cX2_costOfAllLines 24 = .ok (.ladd, 1) := by decide +kernel
theorem dX2_costOfAllLines_25 : decode cX2_costOfAllLines 25 = .ok (.lstore_n 1, 1) := by decide +kernel
theorem dX2_costOfAllLines_26 : decode cX2_costOfAllLines 26 = .ok (.iinc 3 1, 3) := by decide +kernel
theorem dX2_costOfAllLines_29 : decode cX2_costOfAllLines 29 = .ok (.goto (-25), 3) := by decide +kernel
theorem dX2_costOfAllLines_32 : decode cX2_costOfAllLines 32 = .ok (.lload_n 1, 1) := by decide +kernel
theorem dX2_costOfAllLines_33 : decode cX2_costOfAllLines 33 = .ok (.lreturn, 1) := by decide +kernel
set_option maxRecDepth 20000 in
theorem ggX2_costOfAllKinds_X2_kindCost : GoodIn wsX2_costOfAllKinds wsX2_kindCost := goodIn_ca (goodIn_r _ [5, 6, 7, 8, 9, 10, 11, 12, 13, 14, 15, 16, 17, 18, 19, 20, 21, 22, 23, 24, 25, 26, 27, 28, 29, 30, 31, 32, 33, 34, 35, 36, 37, 38, 39, 40, 41, 42, 43, 44, 45, 46, 47, 48, 49, 50, 51, 52, 53, 54, 55, 56, 57] (by decide +kernel) (by decide +kernel)) (goodIn_sub (fun _ h => List.mem_cons_of_mem _ (List.mem_append_right _ h)) (by decide +kernel))
set_option maxRecDepth 20000 in
theorem gX2_costOfAllKinds_X2_kindCost : GoodIn wsX2_costOfAllKinds (wsV RX2 192 RX2 yX2_kindCost wsX2_kindCost) := goodIn_app (goodIn_of _ (by decide +kernel)) ggX2_costOfAllKinds_X2_kindCost
theorem dX2_costOfAllKinds_0 : decode cX2_costOfAllKinds 0 = .ok (.lconst 0, 1) := by decide +kernel
theorem dX2_costOfAllKinds_1 : decode cX2_costOfAllKinds 1 = .ok (.lstore_n 1, 1) := by decide +kernel
theorem dX2_costOfAllKinds_2 : decode cX2_costOfAllKinds 2 = .ok (.iconst 0, 1) := by decide +kernel
theorem dX2_costOfAllKinds_3 : decode cX2_costOfAllKinds 3 = .ok (.istore_n 3, 1) := by decide +kernel
theorem dX2_costOfAllKinds_4 : decode cX2_costOfAllKinds 4 = .ok (.iload_n 3, 1) := by decide +kernel
theorem dX2_costOfAllKinds_5 : decode cX2_costOfAllKinds 5 = .ok (.iconst 2, 1) := by decide +kernel
theorem dX2_costOfAllKinds_6 : decode cX2_costOfAllKinds 6 = .ok (.if_icmp .gt 17, 3) := by decide +kernel
theorem dX2_costOfAllKinds_9 : decode cX2_costOfAllKinds 9 = .ok (.lload_n 1, 1) := by decide +kernel
theorem dX2_costOfAllKinds_10 : decode cX2_costOfAllKinds 10 = .ok (.aload_n 0, 1) := by decide +kernel
theorem dX2_costOfAllKinds_11 : decode cX2_costOfAllKinds 11 = .ok (.iload_n 3, 1) := by decide +kernel
theorem dX2_costOfAllKinds_12 : decode cX2_costOfAllKinds 12 = .ok (.invokevirtual 192, 3) := by decide +kernel
theorem dX2_costOfAllKinds_15 : decode cX2_costOfAllKinds 15 = .ok (.ladd, 1) := by decide +kernel
theorem dX2_costOfAllKinds_16 : decode cX2_costOfAllKinds 16 = .ok (.lstore_n 1, 1) := by decide +kernel
theorem dX2_costOfAllKinds_17 : decode cX2_costOfAllKinds 17 = .ok (.iinc 3 1, 3) := by decide +kernel
theorem dX2_costOfAllKinds_20 : decode cX2_costOfAllKinds 20 = .ok (.goto (-16), 3) := by decide +kernel
theorem dX2_costOfAllKinds_23 : decode cX2_costOfAllKinds 23 = .ok (.lload_n 1, 1) := by decide +kernel
theorem dX2_costOfAllKinds_24 : decode cX2_costOfAllKinds 24 = .ok (.lreturn, 1) := by decide +kernel
set_option maxRecDepth 20000 in
theorem ggX2_costOfAllTrades_X2_tradeCost : GoodIn wsX2_costOfAllTrades wsX2_tradeCost := goodIn_ca (goodIn_r _ [5, 6, 7, 8, 9, 10, 11, 12, 13, 14, 15, 16, 17, 18, 19, 20, 21, 22, 23, 24, 25, 26, 27, 28, 29, 30, 31, 32, 33, 34, 35, 36, 37, 4, 38, 39, 40, 41, 42, 43, 44, 45, 46, 47, 48, 49, 50, 51, 52, 53, 54, 55, 56, 57, 58, 59, 60, 61, 62, 63, 64, 65, 66] (by decide +kernel) (by decide +kernel)) (goodIn_sub (fun _ h => List.mem_cons_of_mem _ (List.mem_append_right _ h)) (by decide +kernel))
set_option maxRecDepth 20000 in
theorem gX2_costOfAllTrades_X2_tradeCost : GoodIn wsX2_costOfAllTrades (wsV RX2 235 RX2 yX2_tradeCost wsX2_tradeCost) := goodIn_app (goodIn_of _ (by decide +kernel)) ggX2_costOfAllTrades_X2_tradeCost
theorem dX2_costOfAllTrades_0 : decode cX2_costOfAllTrades 0 = .ok (.lconst 0, 1) := by decide +kernel
theorem dX2_costOfAllTrades_1 : decode cX2_costOfAllTrades 1 = .ok (.lstore_n 1, 1) := by decide +kernel
theorem dX2_costOfAllTrades_2 : decode cX2_costOfAllTrades 2 = .ok (.iconst 0, 1) := by decide +kernel
theorem dX2_costOfAllTrades_3 : decode cX2_costOfAllTrades 3 = .ok (.istore_n 3, 1) := by decide +kernel
theorem dX2_costOfAllTrades_4 : decode cX2_costOfAllTrades 4 = .ok (.iload_n 3, 1) := by decide +kernel
theorem dX2_costOfAllTrades_5 : decode cX2_costOfAllTrades 5 = .ok (.bipush 6, 2) := by decide +kernel
theorem dX2_costOfAllTrades_7 : decode cX2_costOfAllTrades 7 = .ok (.if_icmp .ge 17, 3) := by decide +kernel
theorem dX2_costOfAllTrades_10 : decode cX2_costOfAllTrades 10 = .ok (.lload_n 1, 1) := by decide +kernel
theorem dX2_costOfAllTrades_11 : decode cX2_costOfAllTrades 11 = .ok (.aload_n 0, 1) := by decide +kernel
theorem dX2_costOfAllTrades_12 : decode cX2_costOfAllTrades 12 = .ok (.iload_n 3, 1) := by decide +kernel
theorem dX2_costOfAllTrades_13 : decode cX2_costOfAllTrades 13 = .ok (.invokevirtual 235, 3) := by decide +kernel
theorem dX2_costOfAllTrades_16 : decode cX2_costOfAllTrades 16 = .ok (.ladd, 1) := by decide +kernel
theorem dX2_costOfAllTrades_17 : decode cX2_costOfAllTrades 17 = .ok (.lstore_n 1, 1) := by decide +kernel
theorem dX2_costOfAllTrades_18 : decode cX2_costOfAllTrades 18 = .ok (.iinc 3 1, 3) := by decide +kernel
theorem dX2_costOfAllTrades_21 : decode cX2_costOfAllTrades 21 = .ok (.goto (-17), 3) := by decide +kernel
theorem dX2_costOfAllTrades_24 : decode cX2_costOfAllTrades 24 = .ok (.lload_n 1, 1) := by decide +kernel
theorem dX2_costOfAllTrades_25 : decode cX2_costOfAllTrades 25 = .ok (.lreturn, 1) := by decide +kernel
set_option maxRecDepth 20000 in
theorem ggX2_amountsAgree_Jx4a65c_size_8abf5 : GoodIn wsX2_amountsAgree wsJx4a65c_size_8abf5 := goodIn_r _ [8, 9, 78, 79, 80] (by decide +kernel) (by decide +kernel)
set_option maxRecDepth 20000 in
theorem gX2_amountsAgree_Jx4a65c_size_8abf5 : GoodIn wsX2_amountsAgree (wsV RX2 49 RJx4a65c yJx4a65c_size_8abf5 wsJx4a65c_size_8abf5) := goodIn_app (goodIn_of _ (by decide +kernel)) ggX2_amountsAgree_Jx4a65c_size_8abf5
set_option maxRecDepth 20000 in
theorem ggX2_amountsAgree_X2_amountInTrees : GoodIn wsX2_amountsAgree wsX2_amountInTrees := goodIn_ca (goodIn_r _ [14, 1, 15, 16, 17, 18, 19, 4, 5, 6, 7, 8, 9, 20, 21, 22, 23, 24, 25, 26, 27, 28, 29, 30, 31, 32, 33, 34, 35, 36, 37, 38, 39, 13, 40, 41, 42, 43, 44, 45, 46, 47, 48, 49, 50, 51, 52, 53, 54, 55, 56, 57, 58, 59, 60, 61, 62, 63, 64, 65, 66, 67, 68, 69, 70, 71, 72, 73, 74, 75, 76, 77, 81, 82, 78, 79, 80, 83, 84, 85, 86, 87, 88, 89, 90] (by decide +kernel) (by decide +kernel)) (goodIn_sub (fun _ h => List.mem_cons_of_mem _ (List.mem_append_right _ h)) (by decide +kernel))
set_option maxRecDepth 20000 in
theorem gX2_amountsAgree_X2_amountInTrees : GoodIn wsX2_amountsAgree (wsV RX2 238 RX2 yX2_amountInTrees wsX2_amountInTrees) := goodIn_app (goodIn_of _ (by decide +kernel)) ggX2_amountsAgree_X2_amountInTrees
theorem dX2_amountsAgree_0 : decode cX2_amountsAgree 0 = .ok (.iconst 0, 1) := by decide +kernel
theorem dX2_amountsAgree_1 : decode cX2_amountsAgree 1 = .ok (.istore_n 1, 1) := by decide +kernel
theorem dX2_amountsAgree_2 : decode cX2_amountsAgree 2 = .ok (.iload_n 1, 1) := by decide +kernel
theorem dX2_amountsAgree_3 : decode cX2_amountsAgree 3 = .ok (.aload_n 0, 1) := by decide +kernel
theorem dX2_amountsAgree_4 : decode cX2_amountsAgree 4 = .ok (.getfield 39, 3) := by decide +kernel
theorem dX2_amountsAgree_7 : decode cX2_amountsAgree 7 = .ok (.getfield 59, 3) := by decide +kernel
theorem dX2_amountsAgree_10 : decode cX2_amountsAgree 10 = .ok (.invokevirtual 49, 3) := by decide +kernel
theorem dX2_amountsAgree_13 : decode cX2_amountsAgree 13 = .ok (.if_icmp .ge 26, 3) := by decide +kernel
theorem dX2_amountsAgree_16 : decode cX2_amountsAgree 16 = .ok (.aload_n 0, 1) := by decide +kernel
theorem dX2_amountsAgree_17 : decode cX2_amountsAgree 17 = .ok (.getfield 33, 3) := by decide +kernel
theorem dX2_amountsAgree_20 : decode cX2_amountsAgree 20 = .ok (.iload_n 1, 1) := by decide +kernel
theorem dX2_amountsAgree_21 : decode cX2_amountsAgree 21 = .ok (.laload, 1) := by decide +kernel
theorem dX2_amountsAgree_22 : decode cX2_amountsAgree 22 = .ok (.aload_n 0, 1) := by decide +kernel
theorem dX2_amountsAgree_23 : decode cX2_amountsAgree 23 = .ok (.iload_n 1, 1) := by decide +kernel
theorem dX2_amountsAgree_24 : decode cX2_amountsAgree 24 = .ok (.invokevirtual 238, 3) := by decide +kernel
theorem dX2_amountsAgree_27 : decode cX2_amountsAgree 27 = .ok (.lcmp, 1) := by decide +kernel
theorem dX2_amountsAgree_28 : decode cX2_amountsAgree 28 = .ok (.ifCond .eq 5, 3) := by decide +kernel
theorem dX2_amountsAgree_31 : decode cX2_amountsAgree 31 = .ok (.iconst 0, 1) := by decide +kernel
theorem dX2_amountsAgree_32 : decode cX2_amountsAgree 32 = .ok (.ireturn, 1) := by decide +kernel
theorem dX2_amountsAgree_33 : decode cX2_amountsAgree 33 = .ok (.iinc 1 1, 3) := by decide +kernel
theorem dX2_amountsAgree_36 : decode cX2_amountsAgree 36 = .ok (.goto (-34), 3) := by decide +kernel
theorem dX2_amountsAgree_39 : decode cX2_amountsAgree 39 = .ok (.iconst 1, 1) := by decide +kernel
theorem dX2_amountsAgree_40 : decode cX2_amountsAgree 40 = .ok (.ireturn, 1) := by decide +kernel
set_option maxRecDepth 20000 in
theorem ggX2_amountInTrees_Jx4a65c_size_8abf5 : GoodIn wsX2_amountInTrees wsJx4a65c_size_8abf5 := goodIn_r _ [11, 12, 74, 75, 76] (by decide +kernel) (by decide +kernel)
set_option maxRecDepth 20000 in
theorem gX2_amountInTrees_Jx4a65c_size_8abf5 : GoodIn wsX2_amountInTrees (wsV RX2 49 RJx4a65c yJx4a65c_size_8abf5 wsJx4a65c_size_8abf5) := goodIn_app (goodIn_of _ (by decide +kernel)) ggX2_amountInTrees_Jx4a65c_size_8abf5
set_option maxRecDepth 20000 in
theorem ggX2_amountInTrees_Jx4a65c_get_915e3 : GoodIn wsX2_amountInTrees wsJx4a65c_get_915e3 := goodIn_r _ [16, 12, 17, 18, 19, 20, 21, 22, 23, 24, 25, 26, 27, 10, 28, 29, 74, 75, 76] (by decide +kernel) (by decide +kernel)
set_option maxRecDepth 20000 in
theorem gX2_amountInTrees_Jx4a65c_get_915e3 : GoodIn wsX2_amountInTrees (wsV RX2 72 RJx4a65c yJx4a65c_get_915e3 wsJx4a65c_get_915e3) := goodIn_app (goodIn_of _ (by decide +kernel)) ggX2_amountInTrees_Jx4a65c_get_915e3
set_option maxRecDepth 20000 in
theorem ggX2_amountInTrees_X2_unitsInTree : GoodIn wsX2_amountInTrees wsX2_unitsInTree := goodIn_ca (goodIn_r _ [34, 1, 35, 36, 37, 38, 13, 14, 15, 10, 16, 12, 17, 18, 19, 20, 21, 22, 23, 24, 25, 26, 27, 28, 29, 7, 8, 9, 11, 39, 40, 41, 33, 42, 43, 5, 44, 45, 46, 30, 31, 32, 47, 48, 49, 50, 51, 52, 53, 54, 55, 77, 78, 79, 56, 57, 58, 59, 60, 61, 62, 63, 64, 65, 66, 67, 68, 69, 70, 71, 80, 81, 82, 74, 75, 76, 83, 84] (by decide +kernel) (by decide +kernel)) (goodIn_sub (fun _ h => List.mem_cons_of_mem _ (List.mem_append_right _ h)) (by decide +kernel))
set_option maxRecDepth 20000 in
theorem gX2_amountInTrees_X2_unitsInTree : GoodIn wsX2_amountInTrees (wsV RX2 241 RX2 yX2_unitsInTree wsX2_unitsInTree) := goodIn_app (goodIn_of _ (by decide +kernel)) ggX2_amountInTrees_X2_unitsInTree
theorem dX2_amountInTrees_0 : decode cX2_amountInTrees 0 = .ok (.lconst 0, 1) := by decide +kernel
theorem dX2_amountInTrees_1 : decode cX2_amountInTrees 1 = .ok (.lstore_n 2, 1) := by decide +kernel
theorem dX2_amountInTrees_2 : decode cX2_amountInTrees 2 = .ok (.iconst 0, 1) := by decide +kernel
theorem dX2_amountInTrees_3 : decode cX2_amountInTrees 3 = .ok (.istore 4, 2) := by decide +kernel
theorem dX2_amountInTrees_5 : decode cX2_amountInTrees 5 = .ok (.iload 4, 2) := by decide +kernel
theorem dX2_amountInTrees_7 : decode cX2_amountInTrees 7 = .ok (.aload_n 0, 1) := by decide +kernel
theorem dX2_amountInTrees_8 : decode cX2_amountInTrees 8 = .ok (.getfield 39, 3) := by decide +kernel
theorem dX2_amountInTrees_11 : decode cX2_amountInTrees 11 = .ok (.getfield 163, 3) := by decide +kernel
theorem dX2_amountInTrees_14 : decode cX2_amountInTrees 14 = .ok (.invokevirtual 49, 3) := by decide +kernel
theorem dX2_amountInTrees_17 : decode cX2_amountInTrees 17 = .ok (.if_icmp .ge 52, 3) := by decide +kernel
theorem dX2_amountInTrees_20 : decode cX2_amountInTrees 20 = .ok (.aload_n 0, 1) := by decide +kernel
theorem dX2_amountInTrees_21 : decode cX2_amountInTrees 21 = .ok (.getfield 39, 3) := by decide +kernel
theorem dX2_amountInTrees_24 : decode cX2_amountInTrees 24 = .ok (.getfield 163, 3) := by decide +kernel
theorem dX2_amountInTrees_27 : decode cX2_amountInTrees 27 = .ok (.iload 4, 2) := by decide +kernel
theorem dX2_amountInTrees_29 : decode cX2_amountInTrees 29 = .ok (.invokevirtual 72, 3) := by decide +kernel
theorem dX2_amountInTrees_32 : decode cX2_amountInTrees 32 = .ok (.checkcast 166, 3) := by decide +kernel
theorem dX2_amountInTrees_35 : decode cX2_amountInTrees 35 = .ok (.astore 5, 2) := by decide +kernel
theorem dX2_amountInTrees_37 : decode cX2_amountInTrees 37 = .ok (.lload_n 2, 1) := by decide +kernel
theorem dX2_amountInTrees_38 : decode cX2_amountInTrees 38 = .ok (.aload 5, 2) := by decide +kernel
theorem dX2_amountInTrees_40 : decode cX2_amountInTrees 40 = .ok (.getfield 171, 3) := by decide +kernel
theorem dX2_amountInTrees_43 : decode cX2_amountInTrees 43 = .ok (.i2l, 1) := by decide +kernel
theorem dX2_amountInTrees_44 : decode cX2_amountInTrees 44 = .ok (.aload_n 0, 1) := by decide +kernel
theorem dX2_amountInTrees_45 : decode cX2_amountInTrees 45 = .ok (.aload_n 0, 1) := by decide +kernel
theorem dX2_amountInTrees_46 : decode cX2_amountInTrees 46 = .ok (.getfield 9, 3) := by decide +kernel
theorem dX2_amountInTrees_49 : decode cX2_amountInTrees 49 = .ok (.aload 5, 2) := by decide +kernel
theorem dX2_amountInTrees_51 : decode cX2_amountInTrees 51 = .ok (.getfield 168, 3) := by decide +kernel
theorem dX2_amountInTrees_54 : decode cX2_amountInTrees 54 = .ok (.iaload, 1) := by decide +kernel
theorem dX2_amountInTrees_55 : decode cX2_amountInTrees 55 = .ok (.iload_n 1, 1) := by decide +kernel
theorem dX2_amountInTrees_56 : decode cX2_amountInTrees 56 = .ok (.iconst 1, 1) := by decide +kernel
theorem dX2_amountInTrees_57 : decode cX2_amountInTrees 57 = .ok (.invokevirtual 241, 3) := by decide +kernel
theorem dX2_amountInTrees_60 : decode cX2_amountInTrees 60 = .ok (.lmul, 1) := by decide +kernel
theorem dX2_amountInTrees_61 : decode cX2_amountInTrees 61 = .ok (.ladd, 1) := by decide +kernel
theorem dX2_amountInTrees_62 : decode cX2_amountInTrees 62 = .ok (.lstore_n 2, 1) := by decide +kernel
theorem dX2_amountInTrees_63 : decode cX2_amountInTrees 63 = .ok (.iinc 4 1, 3) := by decide +kernel
theorem dX2_amountInTrees_66 : decode cX2_amountInTrees 66 = .ok (.goto (-61), 3) := by decide +kernel
theorem dX2_amountInTrees_69 : decode cX2_amountInTrees 69 = .ok (.lload_n 2, 1) := by decide +kernel
theorem dX2_amountInTrees_70 : decode cX2_amountInTrees 70 = .ok (.lreturn, 1) := by decide +kernel
set_option maxRecDepth 20000 in
theorem ggX2_unitsInTree_Jx4a65c_get_915e3 : GoodIn wsX2_unitsInTree wsJx4a65c_get_915e3 := goodIn_r _ [10, 11, 12, 13, 14, 15, 16, 17, 18, 19, 20, 21, 22, 9, 23, 24, 73, 74, 75] (by decide +kernel) (by decide +kernel)
set_option maxRecDepth 20000 in
theorem gX2_unitsInTree_Jx4a65c_get_915e3 : GoodIn wsX2_unitsInTree (wsV RX2 72 RJx4a65c yJx4a65c_get_915e3 wsJx4a65c_get_915e3) := goodIn_app (goodIn_of _ (by decide +kernel)) ggX2_unitsInTree_Jx4a65c_get_915e3
set_option maxRecDepth 20000 in
theorem ggX2_unitsInTree_Jx4a65c_size_8abf5 : GoodIn wsX2_unitsInTree wsJx4a65c_size_8abf5 := goodIn_r _ [28, 11, 73, 74, 75] (by decide +kernel) (by decide +kernel)
set_option maxRecDepth 20000 in
theorem gX2_unitsInTree_Jx4a65c_size_8abf5 : GoodIn wsX2_unitsInTree (wsV RX2 49 RJx4a65c yJx4a65c_size_8abf5 wsJx4a65c_size_8abf5) := goodIn_app (goodIn_of _ (by decide +kernel)) ggX2_unitsInTree_Jx4a65c_size_8abf5
set_option maxRecDepth 20000 in
theorem ggX2_unitsInTree_X2_unitsInComponent : GoodIn wsX2_unitsInTree wsX2_unitsInComponent := goodIn_ca (goodIn_r _ [33, 34, 35, 36, 37, 38, 39, 40, 41, 32, 42, 43, 44, 45, 1, 46, 47, 48, 49, 50, 6, 7, 8, 9, 10, 11, 12, 13, 14, 15, 16, 17, 18, 19, 20, 21, 22, 23, 24, 0, 2, 3, 4, 5, 25, 26, 27, 28, 29, 30, 31, 51, 52, 53, 54, 55, 56, 57, 58, 59, 60, 61, 62, 63, 64, 65, 66, 67, 68, 69, 70, 71, 72, 73, 74, 75, 76, 77] (by decide +kernel) (by decide +kernel)) (goodIn_sub (fun _ h => List.mem_cons_of_mem _ (List.mem_append_right _ h)) (by decide +kernel))
set_option maxRecDepth 20000 in
theorem gX2_unitsInTree_X2_unitsInComponent : GoodIn wsX2_unitsInTree (wsV RX2 245 RX2 yX2_unitsInComponent wsX2_unitsInComponent) := goodIn_app (goodIn_of _ (by decide +kernel)) ggX2_unitsInTree_X2_unitsInComponent
theorem dX2_unitsInTree_0 : decode cX2_unitsInTree 0 = .ok (.iload_n 3, 1) := by decide +kernel
theorem dX2_unitsInTree_1 : decode cX2_unitsInTree 1 = .ok (.iconst 3, 1) := by decide +kernel
theorem dX2_unitsInTree_2 : decode cX2_unitsInTree 2 = .ok (.if_icmp .le 5, 3) := by decide +kernel
theorem dX2_unitsInTree_5 : decode cX2_unitsInTree 5 = .ok (.lconst 0, 1) := by decide +kernel
theorem dX2_unitsInTree_6 : decode cX2_unitsInTree 6 = .ok (.lreturn, 1) := by decide +kernel
theorem dX2_unitsInTree_7 : decode cX2_unitsInTree 7 = .ok (.aload_n 0, 1) := by decide +kernel
theorem dX2_unitsInTree_8 : decode cX2_unitsInTree 8 = .ok (.getfield 39, 3) := by decide +kernel
theorem dX2_unitsInTree_11 : decode cX2_unitsInTree 11 = .ok (.getfield 43, 3) := by decide +kernel
theorem dX2_unitsInTree_14 : decode cX2_unitsInTree 14 = .ok (.iload_n 1, 1) := by decide +kernel
theorem dX2_unitsInTree_15 : decode cX2_unitsInTree 15 = .ok (.invokevirtual 72, 3) := by decide +kernel
theorem dX2_unitsInTree_18 : decode cX2_unitsInTree 18 = .ok (.checkcast 98, 3) := by decide +kernel
theorem dX2_unitsInTree_21 : decode cX2_unitsInTree 21 = .ok (.getfield 100, 3) := by decide +kernel
theorem dX2_unitsInTree_24 : decode cX2_unitsInTree 24 = .ok (.astore 4, 2) := by decide +kernel
theorem dX2_unitsInTree_26 : decode cX2_unitsInTree 26 = .ok (.lconst 0, 1) := by decide +kernel
theorem dX2_unitsInTree_27 : decode cX2_unitsInTree 27 = .ok (.lstore 5, 2) := by decide +kernel
theorem dX2_unitsInTree_29 : decode cX2_unitsInTree 29 = .ok (.iconst 0, 1) := by decide +kernel
theorem dX2_unitsInTree_30 : decode cX2_unitsInTree 30 = .ok (.istore 7, 2) := by decide +kernel
theorem dX2_unitsInTree_32 : decode cX2_unitsInTree 32 = .ok (.iload 7, 2) := by decide +kernel
theorem dX2_unitsInTree_34 : decode cX2_unitsInTree 34 = .ok (.aload 4, 2) := by decide +kernel
theorem dX2_unitsInTree_36 : decode cX2_unitsInTree 36 = .ok (.invokevirtual 49, 3) := by decide +kernel
theorem dX2_unitsInTree_39 : decode cX2_unitsInTree 39 = .ok (.if_icmp .ge 30, 3) := by decide +kernel
theorem dX2_unitsInTree_42 : decode cX2_unitsInTree 42 = .ok (.lload 5, 2) := by decide +kernel
theorem dX2_unitsInTree_44 : decode cX2_unitsInTree 44 = .ok (.aload_n 0, 1) := by decide +kernel
theorem dX2_unitsInTree_45 : decode cX2_unitsInTree 45 = .ok (.aload 4, 2) := by decide +kernel
theorem dX2_unitsInTree_47 : decode cX2_unitsInTree 47 = .ok (.iload 7, 2) := by decide +kernel
theorem dX2_unitsInTree_49 : decode cX2_unitsInTree 49 = .ok (.invokevirtual 72, 3) := by decide +kernel
theorem dX2_unitsInTree_52 : decode cX2_unitsInTree 52 = .ok (.checkcast 103, 3) := by decide +kernel
theorem dX2_unitsInTree_55 : decode cX2_unitsInTree 55 = .ok (.iload_n 2, 1) := by decide +kernel
theorem dX2_unitsInTree_56 : decode cX2_unitsInTree 56 = .ok (.iload_n 3, 1) := by decide +kernel
theorem dX2_unitsInTree_57 : decode cX2_unitsInTree 57 = .ok (.invokevirtual 245, 3) := by decide +kernel
theorem dX2_unitsInTree_60 : decode cX2_unitsInTree 60 = .ok (.ladd, 1) := by decide +kernel
theorem dX2_unitsInTree_61 : decode cX2_unitsInTree 61 = .ok (.lstore 5, 2) := by decide +kernel
theorem dX2_unitsInTree_63 : decode cX2_unitsInTree 63 = .ok (.iinc 7 1, 3) := by decide +kernel
theorem dX2_unitsInTree_66 : decode cX2_unitsInTree 66 = .ok (.goto (-34), 3) := by decide +kernel
theorem dX2_unitsInTree_69 : decode cX2_unitsInTree 69 = .ok (.lload 5, 2) := by decide +kernel
theorem dX2_unitsInTree_71 : decode cX2_unitsInTree 71 = .ok (.lreturn, 1) := by decide +kernel
set_option maxRecDepth 20000 in
theorem ggX2_unitsInComponent_X2_unitsInTree : GoodIn wsX2_unitsInComponent wsX2_unitsInTree := goodIn_ca (goodIn_r _ [39, 14, 40, 41, 42, 43, 20, 21, 22, 23, 24, 25, 26, 27, 28, 29, 30, 31, 32, 33, 34, 35, 36, 37, 38, 44, 45, 46, 47, 48, 49, 50, 9, 0, 1, 2, 3, 4, 5, 6, 7, 8, 10, 11, 12, 13, 15, 16, 17, 18, 19, 51, 52, 53, 54, 55, 56, 57, 58, 59, 60, 61, 62, 63, 64, 65, 66, 67, 68, 69, 70, 71, 72, 73, 74, 75, 76, 77] (by decide +kernel) (by decide +kernel)) (goodIn_sub (fun _ h => List.mem_cons_of_mem _ (List.mem_append_right _ h)) (by decide +kernel))
set_option maxRecDepth 20000 in
theorem gX2_unitsInComponent_X2_unitsInTree : GoodIn wsX2_unitsInComponent (wsV RX2 241 RX2 yX2_unitsInTree wsX2_unitsInTree) := goodIn_app (goodIn_of _ (by decide +kernel)) ggX2_unitsInComponent_X2_unitsInTree
set_option maxRecDepth 20000 in
theorem ggX2_unitsInComponent_X2_unitsInCrew : GoodIn wsX2_unitsInComponent wsX2_unitsInCrew := goodIn_ca (goodIn_r _ [13, 14, 15, 16, 17, 5, 18, 19, 20, 21, 22, 23, 24, 25, 26, 27, 28, 29, 30, 31, 32, 33, 34, 35, 36, 37, 38, 54, 55, 56, 57, 58, 59, 60, 61, 62, 63, 64, 65, 66, 67, 68, 69, 70, 71, 72, 73, 74, 75] (by decide +kernel) (by decide +kernel)) (goodIn_sub (fun _ h => List.mem_cons_of_mem _ (List.mem_append_right _ h)) (by decide +kernel))
set_option maxRecDepth 20000 in
theorem gX2_unitsInComponent_X2_unitsInCrew : GoodIn wsX2_unitsInComponent (wsV RX2 249 RX2 yX2_unitsInCrew wsX2_unitsInCrew) := goodIn_app (goodIn_of _ (by decide +kernel)) ggX2_unitsInComponent_X2_unitsInCrew
theorem dX2_unitsInComponent_0 : decode cX2_unitsInComponent 0 = .ok (.aload_n 1, 1) := by decide +kernel
theorem dX2_unitsInComponent_1 : decode cX2_unitsInComponent 1 = .ok (.getfield 105, 3) := by decide +kernel
theorem dX2_unitsInComponent_4 : decode cX2_unitsInComponent 4 = .ok (.ifCond .ne 31, 3) := by decide +kernel
theorem dX2_unitsInComponent_7 : decode cX2_unitsInComponent 7 = .ok (.aload_n 0, 1) := by decide +kernel
theorem dX2_unitsInComponent_8 : decode cX2_unitsInComponent 8 = .ok (.getfield 9, 3) := by decide +kernel
theorem dX2_unitsInComponent_11 : decode cX2_unitsInComponent 11 = .ok (.aload_n 1, 1) := by decide +kernel
theorem dX2_unitsInComponent_12 : decode cX2_unitsInComponent 12 = .ok (.getfield 109, 3) := by decide +kernel
theorem dX2_unitsInComponent_15 : decode cX2_unitsInComponent 15 = .ok (.iaload, 1) := by decide +kernel
theorem dX2_unitsInComponent_16 : decode cX2_unitsInComponent 16 = .ok (.istore 4, 2) := by decide +kernel
theorem dX2_unitsInComponent_18 : decode cX2_unitsInComponent 18 = .ok (.aload_n 1, 1) := by decide +kernel
theorem dX2_unitsInComponent_19 : decode cX2_unitsInComponent 19 = .ok (.getfield 139, 3) := by decide +kernel
theorem dX2_unitsInComponent_22 : decode cX2_unitsInComponent 22 = .ok (.i2l, 1) := by decide +kernel
theorem dX2_unitsInComponent_23 : decode cX2_unitsInComponent 23 = .ok (.aload_n 0, 1) := by decide +kernel
theorem dX2_unitsInComponent_24 : decode cX2_unitsInComponent 24 = .ok (.iload 4, 2) := by decide +kernel
theorem dX2_unitsInComponent_26 : decode cX2_unitsInComponent 26 = .ok (.iload_n 2, 1) := by decide +kernel
theorem dX2_unitsInComponent_27 : decode cX2_unitsInComponent 27 = .ok (.iload_n 3, 1) := by decide +kernel
theorem dX2_unitsInComponent_28 : decode cX2_unitsInComponent 28 = .ok (.iconst 1, 1) := by decide +kernel
theorem dX2_unitsInComponent_29 : decode cX2_unitsInComponent 29 = .ok (.iadd, 1) := by decide +kernel
theorem dX2_unitsInComponent_30 : decode cX2_unitsInComponent 30 = .ok (.invokevirtual 241, 3) := by decide +kernel
theorem dX2_unitsInComponent_33 : decode cX2_unitsInComponent 33 = .ok (.lmul, 1) := by decide +kernel
theorem dX2_unitsInComponent_34 : decode cX2_unitsInComponent 34 = .ok (.lreturn, 1) := by decide +kernel
theorem dX2_unitsInComponent_35 : decode cX2_unitsInComponent 35 = .ok (.aload_n 1, 1) := by decide +kernel
theorem dX2_unitsInComponent_36 : decode cX2_unitsInComponent 36 = .ok (.getfield 105, 3) := by decide +kernel
theorem dX2_unitsInComponent_39 : decode cX2_unitsInComponent 39 = .ok (.iconst 2, 1) := by decide +kernel
theorem dX2_unitsInComponent_40 : decode cX2_unitsInComponent 40 = .ok (.if_icmp .ne 19, 3) := by decide +kernel
theorem dX2_unitsInComponent_43 : decode cX2_unitsInComponent 43 = .ok (.aload_n 1, 1) := by decide +kernel
theorem dX2_unitsInComponent_44 : decode cX2_unitsInComponent 44 = .ok (.getfield 139, 3) := by decide +kernel
theorem dX2_unitsInComponent_47 : decode cX2_unitsInComponent 47 = .ok (.i2l, 1) := by decide +kernel
theorem dX2_unitsInComponent_48 : decode cX2_unitsInComponent 48 = .ok (.aload_n 0, 1) := by decide +kernel
theorem dX2_unitsInComponent_49 : decode cX2_unitsInComponent 49 = .ok (.aload_n 1, 1) := by decide +kernel
theorem dX2_unitsInComponent_50 : decode cX2_unitsInComponent 50 = .ok (.getfield 109, 3) := by decide +kernel
theorem dX2_unitsInComponent_53 : decode cX2_unitsInComponent 53 = .ok (.iload_n 2, 1) := by decide +kernel
theorem dX2_unitsInComponent_54 : decode cX2_unitsInComponent 54 = .ok (.invokevirtual 249, 3) := by decide +kernel
theorem dX2_unitsInComponent_57 : decode cX2_unitsInComponent 57 = .ok (.lmul, 1) := by decide +kernel
theorem dX2_unitsInComponent_58 : decode cX2_unitsInComponent 58 = .ok (.lreturn, 1) := by decide +kernel
theorem dX2_unitsInComponent_59 : decode cX2_unitsInComponent 59 = .ok (.aload_n 0, 1) := by decide +kernel
theorem dX2_unitsInComponent_60 : decode cX2_unitsInComponent 60 = .ok (.getfield 15, 3) := by decide +kernel
theorem dX2_unitsInComponent_63 : decode cX2_unitsInComponent 63 = .ok (.aload_n 1, 1) := by decide +kernel
theorem dX2_unitsInComponent_64 : decode cX2_unitsInComponent 64 = .ok (.getfield 109, 3) := by decide +kernel
theorem dX2_unitsInComponent_67 : decode cX2_unitsInComponent 67 = .ok (.iaload, 1) := by decide +kernel
theorem dX2_unitsInComponent_68 : decode cX2_unitsInComponent 68 = .ok (.iload_n 2, 1) := by decide +kernel
theorem dX2_unitsInComponent_69 : decode cX2_unitsInComponent 69 = .ok (.if_icmp .ne 11, 3) := by decide +kernel
theorem dX2_unitsInComponent_72 : decode cX2_unitsInComponent 72 = .ok (.aload_n 1, 1) := by decide +kernel
theorem dX2_unitsInComponent_73 : decode cX2_unitsInComponent 73 = .ok (.getfield 139, 3) := by decide +kernel
theorem dX2_unitsInComponent_76 : decode cX2_unitsInComponent 76 = .ok (.i2l, 1) := by decide +kernel
theorem dX2_unitsInComponent_77 : decode cX2_unitsInComponent 77 = .ok (.goto 4, 3) := by decide +kernel
theorem dX2_unitsInComponent_80 : decode cX2_unitsInComponent 80 = .ok (.lconst 0, 1) := by decide +kernel
theorem dX2_unitsInComponent_81 : decode cX2_unitsInComponent 81 = .ok (.lreturn, 1) := by decide +kernel
set_option maxRecDepth 20000 in
theorem ggX2_unitsInCrew_Jx4a65c_get_915e3 : GoodIn wsX2_unitsInCrew wsJx4a65c_get_915e3 := goodIn_r _ [12, 13, 14, 15, 16, 17, 18, 19, 20, 21, 22, 23, 24, 11, 25, 26, 46, 47, 48] (by decide +kernel) (by decide +kernel)
set_option maxRecDepth 20000 in
theorem gX2_unitsInCrew_Jx4a65c_get_915e3 : GoodIn wsX2_unitsInCrew (wsV RX2 72 RJx4a65c yJx4a65c_get_915e3 wsJx4a65c_get_915e3) := goodIn_app (goodIn_of _ (by decide +kernel)) ggX2_unitsInCrew_Jx4a65c_get_915e3
theorem dX2_unitsInCrew_0 : decode cX2_unitsInCrew 0 = .ok (.aload_n 0, 1) := by decide +kernel
theorem dX2_unitsInCrew_1 : decode cX2_unitsInCrew 1 = .ok (.getfield 39, 3) := by decide +kernel
theorem dX2_unitsInCrew_4 : decode cX2_unitsInCrew 4 = .ok (.getfield 142, 3) := by decide +kernel
theorem dX2_unitsInCrew_7 : decode cX2_unitsInCrew 7 = .ok (.iload_n 1, 1) := by decide +kernel
theorem dX2_unitsInCrew_8 : decode cX2_unitsInCrew 8 = .ok (.invokevirtual 72, 3) := by decide +kernel
theorem dX2_unitsInCrew_11 : decode cX2_unitsInCrew 11 = .ok (.checkcast 145, 3) := by decide +kernel
theorem dX2_unitsInCrew_14 : decode cX2_unitsInCrew 14 = .ok (.astore_n 3, 1) := by decide +kernel
theorem dX2_unitsInCrew_15 : decode cX2_unitsInCrew 15 = .ok (.lconst 0, 1) := by decide +kernel
theorem dX2_unitsInCrew_16 : decode cX2_unitsInCrew 16 = .ok (.lstore 4, 2) := by decide +kernel
theorem dX2_unitsInCrew_18 : decode cX2_unitsInCrew 18 = .ok (.iconst 0, 1) := by decide +kernel
theorem dX2_unitsInCrew_19 : decode cX2_unitsInCrew 19 = .ok (.istore 6, 2) := by decide +kernel
theorem dX2_unitsInCrew_21 : decode cX2_unitsInCrew 21 = .ok (.iload 6, 2) := by decide +kernel
theorem dX2_unitsInCrew_23 : decode cX2_unitsInCrew 23 = .ok (.aload_n 3, 1) := by decide +kernel
theorem dX2_unitsInCrew_24 : decode cX2_unitsInCrew 24 = .ok (.getfield 147, 3) := by decide +kernel
theorem dX2_unitsInCrew_27 : decode cX2_unitsInCrew 27 = .ok (.if_icmp .ge 38, 3) := by decide +kernel
theorem dX2_unitsInCrew_30 : decode cX2_unitsInCrew 30 = .ok (.aload_n 0, 1) := by decide +kernel
theorem dX2_unitsInCrew_31 : decode cX2_unitsInCrew 31 = .ok (.getfield 15, 3) := by decide +kernel
theorem dX2_unitsInCrew_34 : decode cX2_unitsInCrew 34 = .ok (.aload_n 3, 1) := by decide +kernel
theorem dX2_unitsInCrew_35 : decode cX2_unitsInCrew 35 = .ok (.getfield 149, 3) := by decide +kernel
theorem dX2_unitsInCrew_38 : decode cX2_unitsInCrew 38 = .ok (.iload 6, 2) := by decide +kernel
theorem dX2_unitsInCrew_40 : decode cX2_unitsInCrew 40 = .ok (.iaload, 1) := by decide +kernel
theorem dX2_unitsInCrew_41 : decode cX2_unitsInCrew 41 = .ok (.iaload, 1) := by decide +kernel
theorem dX2_unitsInCrew_42 : decode cX2_unitsInCrew 42 = .ok (.iload_n 2, 1) := by decide +kernel
theorem dX2_unitsInCrew_43 : decode cX2_unitsInCrew 43 = .ok (.if_icmp .ne 16, 3) := by decide +kernel
theorem dX2_unitsInCrew_46 : decode cX2_unitsInCrew 46 = .ok (.lload 4, 2) := by decide +kernel
theorem dX2_unitsInCrew_48 : decode cX2_unitsInCrew 48 = .ok (.aload_n 3, 1) := by decide +kernel
theorem dX2_unitsInCrew_49 : decode cX2_unitsInCrew 49 = .ok (.getfield 152, 3) := by decide +kernel
theorem dX2_unitsInCrew_52 : decode cX2_unitsInCrew 52 = .ok (.iload 6, 2) := by decide +kernel
theorem dX2_unitsInCrew_54 : decode cX2_unitsInCrew 54 = .ok (.iaload, 1) := by decide +kernel
theorem dX2_unitsInCrew_55 : decode cX2_unitsInCrew 55 = .ok (.i2l, 1) := by decide +kernel
theorem dX2_unitsInCrew_56 : decode cX2_unitsInCrew 56 = .ok (.ladd, 1) := by decide +kernel
theorem dX2_unitsInCrew_57 : decode cX2_unitsInCrew 57 = .ok (.lstore 4, 2) := by decide +kernel
theorem dX2_unitsInCrew_59 : decode cX2_unitsInCrew 59 = .ok (.iinc 6 1, 3) := by decide +kernel
theorem dX2_unitsInCrew_62 : decode cX2_unitsInCrew 62 = .ok (.goto (-41), 3) := by decide +kernel
theorem dX2_unitsInCrew_65 : decode cX2_unitsInCrew 65 = .ok (.lload 4, 2) := by decide +kernel
theorem dX2_unitsInCrew_67 : decode cX2_unitsInCrew 67 = .ok (.lreturn, 1) := by decide +kernel
set_option maxRecDepth 20000 in
theorem ggX3_init_Jx4a65c_init_da8c8 : GoodIn wsX3_init wsJx4a65c_init_da8c8 := goodIn_r _ [11, 12, 13, 14, 15, 16, 17, 18, 19, 20, 21, 22, 23, 2, 3, 24, 25, 26] (by decide +kernel) (by decide +kernel)
set_option maxRecDepth 20000 in
theorem gX3_init_Jx4a65c_init_da8c8 : GoodIn wsX3_init (wsJx4a65c_init_da8c8) := ggX3_init_Jx4a65c_init_da8c8
theorem dX3_init_0 : decode cX3_init 0 = .ok (.aload_n 0, 1) := by decide +kernel
theorem dX3_init_1 : decode cX3_init 1 = .ok (.invokespecial 1, 3) := by decide +kernel
theorem dX3_init_4 : decode cX3_init 4 = .ok (.aload_n 0, 1) := by decide +kernel
theorem dX3_init_5 : decode cX3_init 5 = .ok (.new 7, 3) := by decide +kernel
theorem dX3_init_8 : decode cX3_init 8 = .ok (.dup, 1) := by decide +kernel
theorem dX3_init_9 : decode cX3_init 9 = .ok (.invokespecial 9, 3) := by decide +kernel
theorem dX3_init_12 : decode cX3_init 12 = .ok (.putfield 10, 3) := by decide +kernel
theorem dX3_init_15 : decode cX3_init 15 = .ok (.aload_n 0, 1) := by decide +kernel
theorem dX3_init_16 : decode cX3_init 16 = .ok (.iload_n 1, 1) := by decide +kernel
theorem dX3_init_17 : decode cX3_init 17 = .ok (.putfield 16, 3) := by decide +kernel
theorem dX3_init_20 : decode cX3_init 20 = .ok (.return_, 1) := by decide +kernel
set_option maxRecDepth 20000 in
theorem ggX3_dropLastComponent_Jx4a65c_isEmpty_aae02 : GoodIn wsX3_dropLastComponent wsJx4a65c_isEmpty_aae02 := goodIn_r _ [6, 7, 37, 38, 39] (by decide +kernel) (by decide +kernel)
set_option maxRecDepth 20000 in
theorem gX3_dropLastComponent_Jx4a65c_isEmpty_aae02 : GoodIn wsX3_dropLastComponent (wsV RX3 20 RJx4a65c yJx4a65c_isEmpty_aae02 wsJx4a65c_isEmpty_aae02) := goodIn_app (goodIn_of _ (by decide +kernel)) ggX3_dropLastComponent_Jx4a65c_isEmpty_aae02
set_option maxRecDepth 20000 in
theorem ggX3_dropLastComponent_Jx4a65c_size_8abf5 : GoodIn wsX3_dropLastComponent wsJx4a65c_size_8abf5 := goodIn_r _ [11, 7, 37, 38, 39] (by decide +kernel) (by decide +kernel)
set_option maxRecDepth 20000 in
theorem gX3_dropLastComponent_Jx4a65c_size_8abf5 : GoodIn wsX3_dropLastComponent (wsV RX3 24 RJx4a65c yJx4a65c_size_8abf5 wsJx4a65c_size_8abf5) := goodIn_app (goodIn_of _ (by decide +kernel)) ggX3_dropLastComponent_Jx4a65c_size_8abf5
set_option maxRecDepth 20000 in
theorem ggX3_dropLastComponent_Jx4a65c_remove_915e3 : GoodIn wsX3_dropLastComponent wsJx4a65c_remove_915e3 := goodIn_r _ [15, 7, 16, 17, 18, 19, 20, 21, 22, 23, 24, 25, 26, 27, 5, 28, 29, 30, 31, 32, 33, 34, 37, 38, 39] (by decide +kernel) (by decide +kernel)
set_option maxRecDepth 20000 in
theorem gX3_dropLastComponent_Jx4a65c_remove_915e3 : GoodIn wsX3_dropLastComponent (wsV RX3 28 RJx4a65c yJx4a65c_remove_915e3 wsJx4a65c_remove_915e3) := goodIn_app (goodIn_of _ (by decide +kernel)) ggX3_dropLastComponent_Jx4a65c_remove_915e3
theorem dX3_dropLastComponent_0 : decode cX3_dropLastComponent 0 = .ok (.aload_n 0, 1) := by decide +kernel
theorem dX3_dropLastComponent_1 : decode cX3_dropLastComponent 1 = .ok (.getfield 10, 3) := by decide +kernel
theorem dX3_dropLastComponent_4 : decode cX3_dropLastComponent 4 = .ok (.invokevirtual 20, 3) := by decide +kernel
theorem dX3_dropLastComponent_7 : decode cX3_dropLastComponent 7 = .ok (.ifCond .ne 20, 3) := by decide +kernel
theorem dX3_dropLastComponent_10 : decode cX3_dropLastComponent 10 = .ok (.aload_n 0, 1) := by decide +kernel
theorem dX3_dropLastComponent_11 : decode cX3_dropLastComponent 11 = .ok (.getfield 10, 3) := by decide +kernel
theorem dX3_dropLastComponent_14 : decode cX3_dropLastComponent 14 = .ok (.aload_n 0, 1) := by decide +kernel
theorem dX3_dropLastComponent_15 : decode cX3_dropLastComponent 15 = .ok (.getfield 10, 3) := by decide +kernel
theorem dX3_dropLastComponent_18 : decode cX3_dropLastComponent 18 = .ok (.invokevirtual 24, 3) := by decide +kernel
theorem dX3_dropLastComponent_21 : decode cX3_dropLastComponent 21 = .ok (.iconst 1, 1) := by decide +kernel
theorem dX3_dropLastComponent_22 : decode cX3_dropLastComponent 22 = .ok (.isub, 1) := by decide +kernel
theorem dX3_dropLastComponent_23 : decode cX3_dropLastComponent 23 = .ok (.invokevirtual 28, 3) := by decide +kernel
theorem dX3_dropLastComponent_26 : decode cX3_dropLastComponent 26 = .ok (.pop, 1) := by decide +kernel
theorem dX3_dropLastComponent_27 : decode cX3_dropLastComponent 27 = .ok (.return_, 1) := by decide +kernel
theorem dX4_init_0 : decode cX4_init 0 = .ok (.aload_n 0, 1) := by decide +kernel
theorem dX4_init_1 : decode cX4_init 1 = .ok (.invokespecial 1, 3) := by decide +kernel
theorem dX4_init_4 : decode cX4_init 4 = .ok (.aload_n 0, 1) := by decide +kernel
theorem dX4_init_5 : decode cX4_init 5 = .ok (.iconst 0, 1) := by decide +kernel
theorem dX4_init_6 : decode cX4_init 6 = .ok (.putfield 7, 3) := by decide +kernel
theorem dX4_init_9 : decode cX4_init 9 = .ok (.aload_n 0, 1) := by decide +kernel
theorem dX4_init_10 : decode cX4_init 10 = .ok (.iload_n 1, 1) := by decide +kernel
theorem dX4_init_11 : decode cX4_init 11 = .ok (.putfield 13, 3) := by decide +kernel
theorem dX4_init_14 : decode cX4_init 14 = .ok (.return_, 1) := by decide +kernel
theorem dX5_init_0 : decode cX5_init 0 = .ok (.aload_n 0, 1) := by decide +kernel
theorem dX5_init_1 : decode cX5_init 1 = .ok (.invokespecial 1, 3) := by decide +kernel
theorem dX5_init_4 : decode cX5_init 4 = .ok (.aload_n 0, 1) := by decide +kernel
theorem dX5_init_5 : decode cX5_init 5 = .ok (.iload_n 1, 1) := by decide +kernel
theorem dX5_init_6 : decode cX5_init 6 = .ok (.putfield 7, 3) := by decide +kernel
theorem dX5_init_9 : decode cX5_init 9 = .ok (.aload_n 0, 1) := by decide +kernel
theorem dX5_init_10 : decode cX5_init 10 = .ok (.iload_n 2, 1) := by decide +kernel
theorem dX5_init_11 : decode cX5_init 11 = .ok (.putfield 13, 3) := by decide +kernel
theorem dX5_init_14 : decode cX5_init 14 = .ok (.return_, 1) := by decide +kernel
set_option maxRecDepth 20000 in
theorem ggX6_init_Jx4a65c_init_da8c8 : GoodIn wsX6_init wsJx4a65c_init_da8c8 := goodIn_r _ [16, 17, 18, 19, 20, 21, 22, 23, 24, 25, 26, 27, 28, 2, 3, 29, 30, 31] (by decide +kernel) (by decide +kernel)
set_option maxRecDepth 20000 in
theorem gX6_init_Jx4a65c_init_da8c8 : GoodIn wsX6_init (wsJx4a65c_init_da8c8) := ggX6_init_Jx4a65c_init_da8c8
theorem dX6_init_0 : decode cX6_init 0 = .ok (.aload_n 0, 1) := by decide +kernel
theorem dX6_init_1 : decode cX6_init 1 = .ok (.invokespecial 1, 3) := by decide +kernel
theorem dX6_init_4 : decode cX6_init 4 = .ok (.aload_n 0, 1) := by decide +kernel
theorem dX6_init_5 : decode cX6_init 5 = .ok (.new 7, 3) := by decide +kernel
theorem dX6_init_8 : decode cX6_init 8 = .ok (.dup, 1) := by decide +kernel
theorem dX6_init_9 : decode cX6_init 9 = .ok (.invokespecial 9, 3) := by decide +kernel
theorem dX6_init_12 : decode cX6_init 12 = .ok (.putfield 10, 3) := by decide +kernel
theorem dX6_init_15 : decode cX6_init 15 = .ok (.aload_n 0, 1) := by decide +kernel
theorem dX6_init_16 : decode cX6_init 16 = .ok (.new 7, 3) := by decide +kernel
theorem dX6_init_19 : decode cX6_init 19 = .ok (.dup, 1) := by decide +kernel
theorem dX6_init_20 : decode cX6_init 20 = .ok (.invokespecial 9, 3) := by decide +kernel
theorem dX6_init_23 : decode cX6_init 23 = .ok (.putfield 16, 3) := by decide +kernel
theorem dX6_init_26 : decode cX6_init 26 = .ok (.aload_n 0, 1) := by decide +kernel
theorem dX6_init_27 : decode cX6_init 27 = .ok (.new 7, 3) := by decide +kernel
theorem dX6_init_30 : decode cX6_init 30 = .ok (.dup, 1) := by decide +kernel
theorem dX6_init_31 : decode cX6_init 31 = .ok (.invokespecial 9, 3) := by decide +kernel
theorem dX6_init_34 : decode cX6_init 34 = .ok (.putfield 19, 3) := by decide +kernel
theorem dX6_init_37 : decode cX6_init 37 = .ok (.aload_n 0, 1) := by decide +kernel
theorem dX6_init_38 : decode cX6_init 38 = .ok (.new 7, 3) := by decide +kernel
theorem dX6_init_41 : decode cX6_init 41 = .ok (.dup, 1) := by decide +kernel
theorem dX6_init_42 : decode cX6_init 42 = .ok (.invokespecial 9, 3) := by decide +kernel
theorem dX6_init_45 : decode cX6_init 45 = .ok (.putfield 22, 3) := by decide +kernel
theorem dX6_init_48 : decode cX6_init 48 = .ok (.aload_n 0, 1) := by decide +kernel
theorem dX6_init_49 : decode cX6_init 49 = .ok (.new 7, 3) := by decide +kernel
theorem dX6_init_52 : decode cX6_init 52 = .ok (.dup, 1) := by decide +kernel
theorem dX6_init_53 : decode cX6_init 53 = .ok (.invokespecial 9, 3) := by decide +kernel
theorem dX6_init_56 : decode cX6_init 56 = .ok (.putfield 25, 3) := by decide +kernel
theorem dX6_init_59 : decode cX6_init 59 = .ok (.aload_n 0, 1) := by decide +kernel
theorem dX6_init_60 : decode cX6_init 60 = .ok (.new 7, 3) := by decide +kernel
theorem dX6_init_63 : decode cX6_init 63 = .ok (.dup, 1) := by decide +kernel
theorem dX6_init_64 : decode cX6_init 64 = .ok (.invokespecial 9, 3) := by decide +kernel
theorem dX6_init_67 : decode cX6_init 67 = .ok (.putfield 28, 3) := by decide +kernel
theorem dX6_init_70 : decode cX6_init 70 = .ok (.aload_n 0, 1) := by decide +kernel
theorem dX6_init_71 : decode cX6_init 71 = .ok (.new 7, 3) := by decide +kernel
theorem dX6_init_74 : decode cX6_init 74 = .ok (.dup, 1) := by decide +kernel
theorem dX6_init_75 : decode cX6_init 75 = .ok (.invokespecial 9, 3) := by decide +kernel
theorem dX6_init_78 : decode cX6_init 78 = .ok (.putfield 31, 3) := by decide +kernel
theorem dX6_init_81 : decode cX6_init 81 = .ok (.return_, 1) := by decide +kernel
theorem dX7_init_0 : decode cX7_init 0 = .ok (.aload_n 0, 1) := by decide +kernel
theorem dX7_init_1 : decode cX7_init 1 = .ok (.invokespecial 1, 3) := by decide +kernel
theorem dX7_init_4 : decode cX7_init 4 = .ok (.aload_n 0, 1) := by decide +kernel
theorem dX7_init_5 : decode cX7_init 5 = .ok (.iload_n 1, 1) := by decide +kernel
theorem dX7_init_6 : decode cX7_init 6 = .ok (.putfield 7, 3) := by decide +kernel
theorem dX7_init_9 : decode cX7_init 9 = .ok (.aload_n 0, 1) := by decide +kernel
theorem dX7_init_10 : decode cX7_init 10 = .ok (.iload_n 2, 1) := by decide +kernel
theorem dX7_init_11 : decode cX7_init 11 = .ok (.putfield 13, 3) := by decide +kernel
theorem dX7_init_14 : decode cX7_init 14 = .ok (.aload_n 0, 1) := by decide +kernel
theorem dX7_init_15 : decode cX7_init 15 = .ok (.iload_n 3, 1) := by decide +kernel
theorem dX7_init_16 : decode cX7_init 16 = .ok (.putfield 16, 3) := by decide +kernel
theorem dX7_init_19 : decode cX7_init 19 = .ok (.aload_n 0, 1) := by decide +kernel
theorem dX7_init_20 : decode cX7_init 20 = .ok (.iload 4, 2) := by decide +kernel
theorem dX7_init_22 : decode cX7_init 22 = .ok (.putfield 19, 3) := by decide +kernel
theorem dX7_init_25 : decode cX7_init 25 = .ok (.return_, 1) := by decide +kernel
theorem dX8_init_0 : decode cX8_init 0 = .ok (.aload_n 0, 1) := by decide +kernel
theorem dX8_init_1 : decode cX8_init 1 = .ok (.invokespecial 1, 3) := by decide +kernel
theorem dX8_init_4 : decode cX8_init 4 = .ok (.aload_n 0, 1) := by decide +kernel
theorem dX8_init_5 : decode cX8_init 5 = .ok (.iload_n 1, 1) := by decide +kernel
theorem dX8_init_6 : decode cX8_init 6 = .ok (.putfield 7, 3) := by decide +kernel
theorem dX8_init_9 : decode cX8_init 9 = .ok (.aload_n 0, 1) := by decide +kernel
theorem dX8_init_10 : decode cX8_init 10 = .ok (.iload_n 2, 1) := by decide +kernel
theorem dX8_init_11 : decode cX8_init 11 = .ok (.putfield 13, 3) := by decide +kernel
theorem dX8_init_14 : decode cX8_init 14 = .ok (.return_, 1) := by decide +kernel
set_option maxRecDepth 20000 in
theorem ggX9_init_J7_fill_53178 : GoodIn wsX9_init wsJ7_fill_53178 := goodIn_r _ [10] (by decide +kernel) (by decide +kernel)
set_option maxRecDepth 20000 in
theorem gX9_init_J7_fill_53178 : GoodIn wsX9_init (va_wsS RX9 18 yJ7_fill_53178 wsJ7_fill_53178) := goodIn_app (goodIn_of _ (by decide +kernel)) ggX9_init_J7_fill_53178
theorem dX9_init_0 : decode cX9_init 0 = .ok (.aload_n 0, 1) := by decide +kernel
theorem dX9_init_1 : decode cX9_init 1 = .ok (.invokespecial 3, 3) := by decide +kernel
theorem dX9_init_4 : decode cX9_init 4 = .ok (.aload_n 0, 1) := by decide +kernel
theorem dX9_init_5 : decode cX9_init 5 = .ok (.bipush 12, 2) := by decide +kernel
theorem dX9_init_7 : decode cX9_init 7 = .ok (.newarray .int, 2) := by decide +kernel
theorem dX9_init_9 : decode cX9_init 9 = .ok (.putfield 9, 3) := by decide +kernel
theorem dX9_init_12 : decode cX9_init 12 = .ok (.aload_n 0, 1) := by decide +kernel
theorem dX9_init_13 : decode cX9_init 13 = .ok (.bipush 12, 2) := by decide +kernel
theorem dX9_init_15 : decode cX9_init 15 = .ok (.newarray .int, 2) := by decide +kernel
theorem dX9_init_17 : decode cX9_init 17 = .ok (.putfield 15, 3) := by decide +kernel
theorem dX9_init_20 : decode cX9_init 20 = .ok (.aload_n 0, 1) := by decide +kernel
theorem dX9_init_21 : decode cX9_init 21 = .ok (.getfield 9, 3) := by decide +kernel
theorem dX9_init_24 : decode cX9_init 24 = .ok (.iconst (-1), 1) := by decide +kernel
theorem dX9_init_25 : decode cX9_init 25 = .ok (.invokestatic 18, 3) := by decide +kernel
theorem dX9_init_28 : decode cX9_init 28 = .ok (.aload_n 0, 1) := by decide +kernel
theorem dX9_init_29 : decode cX9_init 29 = .ok (.getfield 15, 3) := by decide +kernel
theorem dX9_init_32 : decode cX9_init 32 = .ok (.iconst (-1), 1) := by decide +kernel
theorem dX9_init_33 : decode cX9_init 33 = .ok (.invokestatic 18, 3) := by decide +kernel
theorem dX9_init_36 : decode cX9_init 36 = .ok (.return_, 1) := by decide +kernel

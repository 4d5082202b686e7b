set_option maxRecDepth 20000 in
theorem wsL_law0_r17_in : ∀ w ∈ wsL_law0_r17, w ∈ lw_tbl := fun w h => (goodIn_p wsL_law0_r17 [1036, 1063, 1067, 1072] (by decide +kernel) (by decide +kernel) w h).1
set_option maxRecDepth 20000 in
theorem wsL_law0_r18_in : ∀ w ∈ wsL_law0_r18, w ∈ lw_tbl := fun w h => (List.mem_append.mp (show w ∈ ([Cond.code yX10_share cX10_share 4 (some .float), Cond.methodLink RX10 299 yX10_checkDivisor, Cond.static yX10_checkDivisor, Cond.code yX10_checkDivisor cX10_checkDivisor 2 none, Cond.classLink RX10 315 "java/lang/ArithmeticException", Cond.initialized "java/lang/ArithmeticException", Cond.methodLink RL 194 yX10_factor, Cond.instanceMethod yX10_factor, Cond.selects RX10 yX10_factor yX10_factor, Cond.code yX10_factor cX10_factor 3 (some .double), Cond.methodLink RL 212 yL_areOrders, Cond.static yL_areOrders, Cond.code yL_areOrders cL_areOrders 11 (some .boolean), Cond.constantLong RL 200 (9223372036854775807), Cond.constantLong RL 202 (3), Cond.methodLink RL 208 yX10_cheapestVariants, Cond.instanceMethod yX10_cheapestVariants, Cond.selects RX10 yX10_cheapestVariants yX10_cheapestVariants, Cond.code yX10_cheapestVariants cX10_cheapestVariants 8 (some .int), Cond.methodLink RL 215 yL_lay, Cond.static yL_lay] : List Cond) ++ ([Cond.code yL_lay cL_lay 8 (some .int)] ++ ([Cond.methodLink RL 154 yL_pick, Cond.static yL_pick] : List Cond)) from h)).elim (fun h => (goodIn_p _ [1079, 1082, 1087, 1090, 195] (by decide +kernel) (by decide +kernel) w h).1) (fun h => (List.mem_append.mp h).elim (fun h => by rw [List.mem_singleton.mp h]; exact List.mem_of_getElem? (i := 374) rfl) (fun h => (goodIn_p _ [] (by decide +kernel) (by decide +kernel) w h).1))
set_option maxRecDepth 20000 in
theorem wsL_law0_r19_in : ∀ w ∈ wsL_law0_r19, w ∈ lw_tbl := fun w h => (goodIn_p wsL_law0_r19 [377, 380, 485, 489, 515] (by decide +kernel) (by decide +kernel) w h).1
set_option maxRecDepth 20000 in
theorem wsL_law0_r20_in : ∀ w ∈ wsL_law0_r20, w ∈ lw_tbl := fun w h => (goodIn_p wsL_law0_r20 [536, 560, 564, 568] (by decide +kernel) (by decide +kernel) w h).1
set_option maxRecDepth 20000 in
theorem wsL_law0_r21_in : ∀ w ∈ wsL_law0_r21, w ∈ lw_tbl := fun w h => (goodIn_p wsL_law0_r21 [572, 575, 580, 583, 609] (by decide +kernel) (by decide +kernel) w h).1
set_option maxRecDepth 20000 in
theorem wsL_law0_r22_in : ∀ w ∈ wsL_law0_r22, w ∈ lw_tbl := fun w h => (goodIn_p wsL_law0_r22 [615, 624, 649, 654] (by decide +kernel) (by decide +kernel) w h).1
set_option maxRecDepth 20000 in
theorem wsL_law0_r23_in : ∀ w ∈ wsL_law0_r23, w ∈ lw_tbl := fun w h => (goodIn_p wsL_law0_r23 [673, 677, 698, 703] (by decide +kernel) (by decide +kernel) w h).1
set_option maxRecDepth 20000 in
theorem wsL_law0_r24_in : ∀ w ∈ wsL_law0_r24, w ∈ lw_tbl := fun w h => (goodIn_p wsL_law0_r24 [707, 712, 729] (by decide +kernel) (by decide +kernel) w h).1

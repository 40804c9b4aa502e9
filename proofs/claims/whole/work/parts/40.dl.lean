set_option maxRecDepth 20000 in
theorem ggL_addKind_X3_addKind : GoodIn wsL_addKind wsX3_addKind := goodIn_ca (goodIn_ca (goodIn_r _ [7, 8, 9, 10, 11, 12, 13, 6, 14, 15, 16, 17, 18, 19, 20, 21, 22, 23, 24, 25, 26, 27, 28, 29, 30, 31, 32, 33, 34, 35, 36, 37, 38, 39, 40, 41, 42, 43, 44, 45, 46, 47, 48, 49, 50, 51] (by decide +kernel) (by decide +kernel)) (goodIn_sub (fun _ h => List.mem_cons_of_mem _ (List.mem_append_left _ (List.mem_append_right _ h))) (by decide +kernel))) (goodIn_sub (fun _ h => List.mem_cons_of_mem _ (List.mem_append_right _ h)) (by decide +kernel))
set_option maxRecDepth 20000 in
theorem gL_addKind_X3_addKind : GoodIn wsL_addKind (wsV RL 7 RX3 yX3_addKind wsX3_addKind) := goodIn_app (goodIn_of _ (by decide +kernel)) ggL_addKind_X3_addKind
theorem dL_addKind_0 : decode cL_addKind 0 = .ok (.aload_n 2, 1) := by decide +kernel
theorem dL_addKind_1 : decode cL_addKind 1 = .ok (.iconst 0, 1) := by decide +kernel
theorem dL_addKind_2 : decode cL_addKind 2 = .ok (.aload_n 0, 1) := by decide +kernel
theorem dL_addKind_3 : decode cL_addKind 3 = .ok (.iload_n 1, 1) := by decide +kernel
theorem dL_addKind_4 : decode cL_addKind 4 = .ok (.invokevirtual 7, 3) := by decide +kernel
theorem dL_addKind_7 : decode cL_addKind 7 = .ok (.i2l, 1) := by decide +kernel
theorem dL_addKind_8 : decode cL_addKind 8 = .ok (.lastore, 1) := by decide +kernel
theorem dL_addKind_9 : decode cL_addKind 9 = .ok (.goto 9, 3) := by decide +kernel
theorem dL_addKind_12 : decode cL_addKind 12 = .ok (.astore_n 3, 1) := by decide +kernel
theorem dL_addKind_13 : decode cL_addKind 13 = .ok (.iconst 1, 1) := by decide +kernel
theorem dL_addKind_14 : decode cL_addKind 14 = .ok (.ireturn, 1) := by decide +kernel
theorem dL_addKind_15 : decode cL_addKind 15 = .ok (.astore_n 3, 1) := by decide +kernel
theorem dL_addKind_16 : decode cL_addKind 16 = .ok (.iconst 2, 1) := by decide +kernel
theorem dL_addKind_17 : decode cL_addKind 17 = .ok (.ireturn, 1) := by decide +kernel
theorem dL_addKind_18 : decode cL_addKind 18 = .ok (.iconst 0, 1) := by decide +kernel
theorem dL_addKind_19 : decode cL_addKind 19 = .ok (.ireturn, 1) := by decide +kernel
set_option maxRecDepth 20000 in
theorem ggL_isBelow_X3_isBelow : GoodIn wsL_isBelow wsX3_isBelow := goodIn_ca (goodIn_r _ [6, 7, 8, 9, 10, 5, 11, 12, 13, 14, 15, 16, 17, 18, 19, 20, 21, 22, 23, 24, 25, 26, 27, 28, 29, 30, 31, 32, 33, 34, 35, 36, 37, 38, 39, 40] (by decide +kernel) (by decide +kernel)) (goodIn_sub (fun _ h => List.mem_cons_of_mem _ (List.mem_append_right _ h)) (by decide +kernel))
set_option maxRecDepth 20000 in
theorem gL_isBelow_X3_isBelow : GoodIn wsL_isBelow (wsV RL 17 RX3 yX3_isBelow wsX3_isBelow) := goodIn_app (goodIn_of _ (by decide +kernel)) ggL_isBelow_X3_isBelow
theorem dL_isBelow_0 : decode cL_isBelow 0 = .ok (.aload_n 3, 1) := by decide +kernel
theorem dL_isBelow_1 : decode cL_isBelow 1 = .ok (.iconst 0, 1) := by decide +kernel
theorem dL_isBelow_2 : decode cL_isBelow 2 = .ok (.aload_n 0, 1) := by decide +kernel
theorem dL_isBelow_3 : decode cL_isBelow 3 = .ok (.iload_n 1, 1) := by decide +kernel
theorem dL_isBelow_4 : decode cL_isBelow 4 = .ok (.iload_n 2, 1) := by decide +kernel
theorem dL_isBelow_5 : decode cL_isBelow 5 = .ok (.invokevirtual 17, 3) := by decide +kernel
theorem dL_isBelow_8 : decode cL_isBelow 8 = .ok (.ifCond .eq 7, 3) := by decide +kernel
theorem dL_isBelow_11 : decode cL_isBelow 11 = .ok (.lconst 1, 1) := by decide +kernel
theorem dL_isBelow_12 : decode cL_isBelow 12 = .ok (.goto 4, 3) := by decide +kernel
theorem dL_isBelow_15 : decode cL_isBelow 15 = .ok (.lconst 0, 1) := by decide +kernel
theorem dL_isBelow_16 : decode cL_isBelow 16 = .ok (.lastore, 1) := by decide +kernel
theorem dL_isBelow_17 : decode cL_isBelow 17 = .ok (.goto 7, 3) := by decide +kernel
theorem dL_isBelow_20 : decode cL_isBelow 20 = .ok (.astore 4, 2) := by decide +kernel
theorem dL_isBelow_22 : decode cL_isBelow 22 = .ok (.iconst 1, 1) := by decide +kernel
theorem dL_isBelow_23 : decode cL_isBelow 23 = .ok (.ireturn, 1) := by decide +kernel
theorem dL_isBelow_24 : decode cL_isBelow 24 = .ok (.iconst 0, 1) := by decide +kernel
theorem dL_isBelow_25 : decode cL_isBelow 25 = .ok (.ireturn, 1) := by decide +kernel
set_option maxRecDepth 20000 in
theorem ggL_common_X3_common : GoodIn wsL_common wsX3_common := goodIn_ca (goodIn_r _ [6, 7, 8, 9, 10, 5, 11, 12, 13, 14, 15, 16, 17, 18, 19, 20, 21, 22, 23, 24, 25, 26, 27, 28, 29, 30, 31, 32, 33, 34, 35, 36, 37, 38, 39, 40, 41, 42, 43, 44, 45, 46, 47, 48] (by decide +kernel) (by decide +kernel)) (goodIn_sub (fun _ h => List.mem_cons_of_mem _ (List.mem_append_right _ h)) (by decide +kernel))
set_option maxRecDepth 20000 in
theorem gL_common_X3_common : GoodIn wsL_common (wsV RL 21 RX3 yX3_common wsX3_common) := goodIn_app (goodIn_of _ (by decide +kernel)) ggL_common_X3_common
theorem dL_common_0 : decode cL_common 0 = .ok (.aload_n 3, 1) := by decide +kernel
theorem dL_common_1 : decode cL_common 1 = .ok (.iconst 0, 1) := by decide +kernel
theorem dL_common_2 : decode cL_common 2 = .ok (.aload_n 0, 1) := by decide +kernel
theorem dL_common_3 : decode cL_common 3 = .ok (.iload_n 1, 1) := by decide +kernel
theorem dL_common_4 : decode cL_common 4 = .ok (.iload_n 2, 1) := by decide +kernel
theorem dL_common_5 : decode cL_common 5 = .ok (.invokevirtual 21, 3) := by decide +kernel
theorem dL_common_8 : decode cL_common 8 = .ok (.i2l, 1) := by decide +kernel
theorem dL_common_9 : decode cL_common 9 = .ok (.lastore, 1) := by decide +kernel
theorem dL_common_10 : decode cL_common 10 = .ok (.goto 7, 3) := by decide +kernel
theorem dL_common_13 : decode cL_common 13 = .ok (.astore 4, 2) := by decide +kernel
theorem dL_common_15 : decode cL_common 15 = .ok (.iconst 1, 1) := by decide +kernel
theorem dL_common_16 : decode cL_common 16 = .ok (.ireturn, 1) := by decide +kernel
theorem dL_common_17 : decode cL_common 17 = .ok (.iconst 0, 1) := by decide +kernel
theorem dL_common_18 : decode cL_common 18 = .ok (.ireturn, 1) := by decide +kernel
set_option maxRecDepth 20000 in
theorem ggL_step_X3_step : GoodIn wsL_step wsX3_step := goodIn_ca (goodIn_ca (goodIn_r _ [7, 8, 9, 10, 11, 6, 12, 13, 14, 15, 16, 17, 18, 19, 20, 21, 22, 23, 24, 25, 26, 27, 28, 29, 30, 31, 32, 33, 34, 35, 36, 37, 38, 39, 40, 41, 42, 43, 44, 45, 46, 47, 48, 49, 50, 51, 52, 53, 54, 55, 56, 57, 58, 59] (by decide +kernel) (by decide +kernel)) (goodIn_sub (fun _ h => List.mem_cons_of_mem _ (List.mem_append_left _ (List.mem_append_right _ h))) (by decide +kernel))) (goodIn_sub (fun _ h => List.mem_cons_of_mem _ (List.mem_append_right _ h)) (by decide +kernel))
set_option maxRecDepth 20000 in
theorem gL_step_X3_step : GoodIn wsL_step (wsV RL 25 RX3 yX3_step wsX3_step) := goodIn_app (goodIn_of _ (by decide +kernel)) ggL_step_X3_step
theorem dL_step_0 : decode cL_step 0 = .ok (.aload_n 2, 1) := by decide +kernel
theorem dL_step_1 : decode cL_step 1 = .ok (.iconst 0, 1) := by decide +kernel
theorem dL_step_2 : decode cL_step 2 = .ok (.aload_n 0, 1) := by decide +kernel
theorem dL_step_3 : decode cL_step 3 = .ok (.iload_n 1, 1) := by decide +kernel
theorem dL_step_4 : decode cL_step 4 = .ok (.invokevirtual 25, 3) := by decide +kernel
theorem dL_step_7 : decode cL_step 7 = .ok (.i2l, 1) := by decide +kernel
theorem dL_step_8 : decode cL_step 8 = .ok (.lastore, 1) := by decide +kernel
theorem dL_step_9 : decode cL_step 9 = .ok (.goto 9, 3) := by decide +kernel
theorem dL_step_12 : decode cL_step 12 = .ok (.astore_n 3, 1) := by decide +kernel
theorem dL_step_13 : decode cL_step 13 = .ok (.iconst 1, 1) := by decide +kernel
theorem dL_step_14 : decode cL_step 14 = .ok (.ireturn, 1) := by decide +kernel
theorem dL_step_15 : decode cL_step 15 = .ok (.astore_n 3, 1) := by decide +kernel
theorem dL_step_16 : decode cL_step 16 = .ok (.iconst 2, 1) := by decide +kernel
theorem dL_step_17 : decode cL_step 17 = .ok (.ireturn, 1) := by decide +kernel
theorem dL_step_18 : decode cL_step 18 = .ok (.iconst 0, 1) := by decide +kernel
theorem dL_step_19 : decode cL_step 19 = .ok (.ireturn, 1) := by decide +kernel
set_option maxRecDepth 20000 in
theorem ggL_jump_X3_jump : GoodIn wsL_jump wsX3_jump := goodIn_ca (goodIn_ca (goodIn_r _ [7, 8, 9, 10, 11, 6, 12, 13, 14, 15, 16, 17, 18, 19, 20, 21, 22, 23, 24, 25, 26, 27, 28, 29, 30, 31, 32, 33, 34, 35, 36, 37, 38, 39, 40, 41, 42, 43, 44, 45, 46, 47, 48, 49, 50] (by decide +kernel) (by decide +kernel)) (goodIn_sub (fun _ h => List.mem_cons_of_mem _ (List.mem_append_left _ (List.mem_append_right _ h))) (by decide +kernel))) (goodIn_sub (fun _ h => List.mem_cons_of_mem _ (List.mem_append_right _ h)) (by decide +kernel))
set_option maxRecDepth 20000 in
theorem gL_jump_X3_jump : GoodIn wsL_jump (wsV RL 30 RX3 yX3_jump wsX3_jump) := goodIn_app (goodIn_of _ (by decide +kernel)) ggL_jump_X3_jump
theorem dL_jump_0 : decode cL_jump 0 = .ok (.aload_n 2, 1) := by decide +kernel
theorem dL_jump_1 : decode cL_jump 1 = .ok (.iconst 0, 1) := by decide +kernel
theorem dL_jump_2 : decode cL_jump 2 = .ok (.aload_n 0, 1) := by decide +kernel
theorem dL_jump_3 : decode cL_jump 3 = .ok (.iload_n 1, 1) := by decide +kernel
theorem dL_jump_4 : decode cL_jump 4 = .ok (.invokevirtual 30, 3) := by decide +kernel
theorem dL_jump_7 : decode cL_jump 7 = .ok (.i2l, 1) := by decide +kernel
theorem dL_jump_8 : decode cL_jump 8 = .ok (.lastore, 1) := by decide +kernel
theorem dL_jump_9 : decode cL_jump 9 = .ok (.goto 9, 3) := by decide +kernel
theorem dL_jump_12 : decode cL_jump 12 = .ok (.astore_n 3, 1) := by decide +kernel
theorem dL_jump_13 : decode cL_jump 13 = .ok (.iconst 1, 1) := by decide +kernel
theorem dL_jump_14 : decode cL_jump 14 = .ok (.ireturn, 1) := by decide +kernel
theorem dL_jump_15 : decode cL_jump 15 = .ok (.astore_n 3, 1) := by decide +kernel
theorem dL_jump_16 : decode cL_jump 16 = .ok (.iconst 2, 1) := by decide +kernel
theorem dL_jump_17 : decode cL_jump 17 = .ok (.ireturn, 1) := by decide +kernel
theorem dL_jump_18 : decode cL_jump 18 = .ok (.iconst 0, 1) := by decide +kernel
theorem dL_jump_19 : decode cL_jump 19 = .ok (.ireturn, 1) := by decide +kernel
set_option maxRecDepth 20000 in
theorem ggL_branch_X3_branch : GoodIn wsL_branch wsX3_branch := goodIn_ca (goodIn_ca (goodIn_r _ [7, 8, 9, 10, 11, 6, 12, 13, 14, 15, 16, 17, 18, 19, 20, 21, 22, 23, 24, 25, 26, 27, 28, 29, 30, 31, 32, 33, 34, 35, 36, 37, 38, 39, 40, 41, 42, 43, 44, 45, 46, 47, 48, 49, 50, 51, 52, 53, 54, 55, 56, 57, 58, 59, 60, 61, 62, 63] (by decide +kernel) (by decide +kernel)) (goodIn_sub (fun _ h => List.mem_cons_of_mem _ (List.mem_append_left _ (List.mem_append_right _ h))) (by decide +kernel))) (goodIn_sub (fun _ h => List.mem_cons_of_mem _ (List.mem_append_right _ h)) (by decide +kernel))
set_option maxRecDepth 20000 in
theorem gL_branch_X3_branch : GoodIn wsL_branch (wsV RL 33 RX3 yX3_branch wsX3_branch) := goodIn_app (goodIn_of _ (by decide +kernel)) ggL_branch_X3_branch
theorem dL_branch_0 : decode cL_branch 0 = .ok (.aload_n 3, 1) := by decide +kernel
theorem dL_branch_1 : decode cL_branch 1 = .ok (.iconst 0, 1) := by decide +kernel
theorem dL_branch_2 : decode cL_branch 2 = .ok (.aload_n 0, 1) := by decide +kernel
theorem dL_branch_3 : decode cL_branch 3 = .ok (.iload_n 1, 1) := by decide +kernel
theorem dL_branch_4 : decode cL_branch 4 = .ok (.iload_n 2, 1) := by decide +kernel
theorem dL_branch_5 : decode cL_branch 5 = .ok (.invokevirtual 33, 3) := by decide +kernel
theorem dL_branch_8 : decode cL_branch 8 = .ok (.i2l, 1) := by decide +kernel
theorem dL_branch_9 : decode cL_branch 9 = .ok (.lastore, 1) := by decide +kernel
theorem dL_branch_10 : decode cL_branch 10 = .ok (.goto 11, 3) := by decide +kernel
theorem dL_branch_13 : decode cL_branch 13 = .ok (.astore 4, 2) := by decide +kernel
theorem dL_branch_15 : decode cL_branch 15 = .ok (.iconst 1, 1) := by decide +kernel
theorem dL_branch_16 : decode cL_branch 16 = .ok (.ireturn, 1) := by decide +kernel
theorem dL_branch_17 : decode cL_branch 17 = .ok (.astore 4, 2) := by decide +kernel
theorem dL_branch_19 : decode cL_branch 19 = .ok (.iconst 2, 1) := by decide +kernel
theorem dL_branch_20 : decode cL_branch 20 = .ok (.ireturn, 1) := by decide +kernel
theorem dL_branch_21 : decode cL_branch 21 = .ok (.iconst 0, 1) := by decide +kernel
theorem dL_branch_22 : decode cL_branch 22 = .ok (.ireturn, 1) := by decide +kernel
set_option maxRecDepth 20000 in
theorem ggL_end_X3_end : GoodIn wsL_end wsX3_end := goodIn_ca (goodIn_r _ [6, 7, 8, 9, 10, 5, 11, 12, 13, 14, 15, 16, 17, 18, 19, 20, 21, 22, 23, 24, 25, 26, 27, 28, 29, 30, 31, 32, 33, 34, 35, 36, 37, 38, 39, 40, 41, 42, 43] (by decide +kernel) (by decide +kernel)) (goodIn_sub (fun _ h => List.mem_cons_of_mem _ (List.mem_append_right _ h)) (by decide +kernel))
set_option maxRecDepth 20000 in
theorem gL_end_X3_end : GoodIn wsL_end (wsV RL 36 RX3 yX3_end wsX3_end) := goodIn_app (goodIn_of _ (by decide +kernel)) ggL_end_X3_end
theorem dL_end_0 : decode cL_end 0 = .ok (.aload_n 1, 1) := by decide +kernel
theorem dL_end_1 : decode cL_end 1 = .ok (.iconst 0, 1) := by decide +kernel
theorem dL_end_2 : decode cL_end 2 = .ok (.aload_n 0, 1) := by decide +kernel
theorem dL_end_3 : decode cL_end 3 = .ok (.invokevirtual 36, 3) := by decide +kernel
theorem dL_end_6 : decode cL_end 6 = .ok (.i2l, 1) := by decide +kernel
theorem dL_end_7 : decode cL_end 7 = .ok (.lastore, 1) := by decide +kernel
theorem dL_end_8 : decode cL_end 8 = .ok (.goto 6, 3) := by decide +kernel
theorem dL_end_11 : decode cL_end 11 = .ok (.astore_n 2, 1) := by decide +kernel
theorem dL_end_12 : decode cL_end 12 = .ok (.iconst 1, 1) := by decide +kernel
theorem dL_end_13 : decode cL_end 13 = .ok (.ireturn, 1) := by decide +kernel
theorem dL_end_14 : decode cL_end 14 = .ok (.iconst 0, 1) := by decide +kernel
theorem dL_end_15 : decode cL_end 15 = .ok (.ireturn, 1) := by decide +kernel
set_option maxRecDepth 20000 in
theorem ggL_raise_X3_raise : GoodIn wsL_raise wsX3_raise := goodIn_ca (goodIn_ca (goodIn_r _ [7, 8, 9, 10, 11, 6, 12, 13, 14, 15, 16, 17, 18, 19, 20, 21, 22, 23, 24, 25, 26, 27, 28, 29, 30, 31, 32, 33, 34, 35, 36, 37, 38, 39, 40, 41, 42, 43, 44, 45, 46, 47, 48, 49, 50, 51, 52, 53, 54, 55, 56, 57, 58, 59] (by decide +kernel) (by decide +kernel)) (goodIn_sub (fun _ h => List.mem_cons_of_mem _ (List.mem_append_left _ (List.mem_append_right _ h))) (by decide +kernel))) (goodIn_sub (fun _ h => List.mem_cons_of_mem _ (List.mem_append_right _ h)) (by decide +kernel))
set_option maxRecDepth 20000 in
theorem gL_raise_X3_raise : GoodIn wsL_raise (wsV RL 40 RX3 yX3_raise wsX3_raise) := goodIn_app (goodIn_of _ (by decide +kernel)) ggL_raise_X3_raise
theorem dL_raise_0 : decode cL_raise 0 = .ok (.aload_n 2, 1) := by decide +kernel
theorem dL_raise_1 : decode cL_raise 1 = .ok (.iconst 0, 1) := by decide +kernel
theorem dL_raise_2 : decode cL_raise 2 = .ok (.aload_n 0, 1) := by decide +kernel
theorem dL_raise_3 : decode cL_raise 3 = .ok (.iload_n 1, 1) := by decide +kernel
theorem dL_raise_4 : decode cL_raise 4 = .ok (.invokevirtual 40, 3) := by decide +kernel
theorem dL_raise_7 : decode cL_raise 7 = .ok (.i2l, 1) := by decide +kernel
theorem dL_raise_8 : decode cL_raise 8 = .ok (.lastore, 1) := by decide +kernel
theorem dL_raise_9 : decode cL_raise 9 = .ok (.goto 9, 3) := by decide +kernel
theorem dL_raise_12 : decode cL_raise 12 = .ok (.astore_n 3, 1) := by decide +kernel
theorem dL_raise_13 : decode cL_raise 13 = .ok (.iconst 1, 1) := by decide +kernel
theorem dL_raise_14 : decode cL_raise 14 = .ok (.ireturn, 1) := by decide +kernel
theorem dL_raise_15 : decode cL_raise 15 = .ok (.astore_n 3, 1) := by decide +kernel
theorem dL_raise_16 : decode cL_raise 16 = .ok (.iconst 2, 1) := by decide +kernel
theorem dL_raise_17 : decode cL_raise 17 = .ok (.ireturn, 1) := by decide +kernel
theorem dL_raise_18 : decode cL_raise 18 = .ok (.iconst 0, 1) := by decide +kernel
theorem dL_raise_19 : decode cL_raise 19 = .ok (.ireturn, 1) := by decide +kernel
set_option maxRecDepth 20000 in
theorem ggL_instruction_X3_instruction : GoodIn wsL_instruction wsX3_instruction := goodIn_ca (goodIn_r _ [6, 7, 8, 9, 10, 11, 12, 5, 13, 14, 15, 16, 17, 18, 19, 20, 21, 22, 23, 24, 25, 26, 27, 28, 29, 30, 31, 32, 33, 34, 35, 36, 37] (by decide +kernel) (by decide +kernel)) (goodIn_sub (fun _ h => List.mem_cons_of_mem _ (List.mem_append_right _ h)) (by decide +kernel))
set_option maxRecDepth 20000 in
theorem gL_instruction_X3_instruction : GoodIn wsL_instruction (wsV RL 43 RX3 yX3_instruction wsX3_instruction) := goodIn_app (goodIn_of _ (by decide +kernel)) ggL_instruction_X3_instruction
theorem dL_instruction_0 : decode cL_instruction 0 = .ok (.aload_n 3, 1) := by decide +kernel
theorem dL_instruction_1 : decode cL_instruction 1 = .ok (.iconst 0, 1) := by decide +kernel
theorem dL_instruction_2 : decode cL_instruction 2 = .ok (.aload_n 0, 1) := by decide +kernel
theorem dL_instruction_3 : decode cL_instruction 3 = .ok (.iload_n 1, 1) := by decide +kernel
theorem dL_instruction_4 : decode cL_instruction 4 = .ok (.iload_n 2, 1) := by decide +kernel
theorem dL_instruction_5 : decode cL_instruction 5 = .ok (.invokevirtual 43, 3) := by decide +kernel
theorem dL_instruction_8 : decode cL_instruction 8 = .ok (.i2l, 1) := by decide +kernel
theorem dL_instruction_9 : decode cL_instruction 9 = .ok (.lastore, 1) := by decide +kernel
theorem dL_instruction_10 : decode cL_instruction 10 = .ok (.goto 7, 3) := by decide +kernel
theorem dL_instruction_13 : decode cL_instruction 13 = .ok (.astore 4, 2) := by decide +kernel
theorem dL_instruction_15 : decode cL_instruction 15 = .ok (.iconst 1, 1) := by decide +kernel
theorem dL_instruction_16 : decode cL_instruction 16 = .ok (.ireturn, 1) := by decide +kernel
theorem dL_instruction_17 : decode cL_instruction 17 = .ok (.iconst 0, 1) := by decide +kernel
theorem dL_instruction_18 : decode cL_instruction 18 = .ok (.ireturn, 1) := by decide +kernel
set_option maxRecDepth 20000 in
theorem ggL_addEntry_X3_addEntry : GoodIn wsL_addEntry wsX3_addEntry := goodIn_ca (goodIn_ca (goodIn_ca (goodIn_r _ [8, 9, 10, 11, 12, 13, 14, 15, 16, 7, 17, 18, 19, 20, 21, 22, 23, 24, 25, 26, 27, 28, 29, 30, 31, 32, 33, 34, 35, 36, 37, 38, 39, 40, 41, 42, 43, 44, 45, 46, 47, 48, 49, 50, 51, 52, 53, 54, 55, 56, 57, 58, 59, 60, 61, 62, 63, 64] (by decide +kernel) (by decide +kernel)) (goodIn_sub (fun _ h => List.mem_cons_of_mem _ (List.mem_append_left _ (List.mem_append_left _ (List.mem_append_right _ h)))) (by decide +kernel))) (goodIn_sub (fun _ h => List.mem_cons_of_mem _ (List.mem_append_left _ (List.mem_append_right _ h))) (by decide +kernel))) (goodIn_sub (fun _ h => List.mem_cons_of_mem _ (List.mem_append_right _ h)) (by decide +kernel))
set_option maxRecDepth 20000 in
theorem gL_addEntry_X3_addEntry : GoodIn wsL_addEntry (wsV RL 46 RX3 yX3_addEntry wsX3_addEntry) := goodIn_app (goodIn_of _ (by decide +kernel)) ggL_addEntry_X3_addEntry
theorem dL_addEntry_0 : decode cL_addEntry 0 = .ok (.aload 5, 2) := by decide +kernel
theorem dL_addEntry_2 : decode cL_addEntry 2 = .ok (.iconst 0, 1) := by decide +kernel
theorem dL_addEntry_3 : decode cL_addEntry 3 = .ok (.aload_n 0, 1) := by decide +kernel
theorem dL_addEntry_4 : decode cL_addEntry 4 = .ok (.iload_n 1, 1) := by decide +kernel
theorem dL_addEntry_5 : decode cL_addEntry 5 = .ok (.iload_n 2, 1) := by decide +kernel
theorem dL_addEntry_6 : decode cL_addEntry 6 = .ok (.iload_n 3, 1) := by decide +kernel
theorem dL_addEntry_7 : decode cL_addEntry 7 = .ok (.iload 4, 2) := by decide +kernel
theorem dL_addEntry_9 : decode cL_addEntry 9 = .ok (.invokevirtual 46, 3) := by decide +kernel
theorem dL_addEntry_12 : decode cL_addEntry 12 = .ok (.i2l, 1) := by decide +kernel
theorem dL_addEntry_13 : decode cL_addEntry 13 = .ok (.lastore, 1) := by decide +kernel
theorem dL_addEntry_14 : decode cL_addEntry 14 = .ok (.goto 15, 3) := by decide +kernel
theorem dL_addEntry_17 : decode cL_addEntry 17 = .ok (.astore 6, 2) := by decide +kernel
theorem dL_addEntry_19 : decode cL_addEntry 19 = .ok (.iconst 1, 1) := by decide +kernel
theorem dL_addEntry_20 : decode cL_addEntry 20 = .ok (.ireturn, 1) := by decide +kernel
theorem dL_addEntry_21 : decode cL_addEntry 21 = .ok (.astore 6, 2) := by decide +kernel
theorem dL_addEntry_23 : decode cL_addEntry 23 = .ok (.iconst 2, 1) := by decide +kernel
theorem dL_addEntry_24 : decode cL_addEntry 24 = .ok (.ireturn, 1) := by decide +kernel
theorem dL_addEntry_25 : decode cL_addEntry 25 = .ok (.astore 6, 2) := by decide +kernel
theorem dL_addEntry_27 : decode cL_addEntry 27 = .ok (.iconst 3, 1) := by decide +kernel
theorem dL_addEntry_28 : decode cL_addEntry 28 = .ok (.ireturn, 1) := by decide +kernel
theorem dL_addEntry_29 : decode cL_addEntry 29 = .ok (.iconst 0, 1) := by decide +kernel
theorem dL_addEntry_30 : decode cL_addEntry 30 = .ok (.ireturn, 1) := by decide +kernel
set_option maxRecDepth 20000 in
theorem ggL_removeEntry_X3_removeEntry : GoodIn wsL_removeEntry wsX3_removeEntry := goodIn_ca (goodIn_r _ [6, 7, 8, 9, 10, 5, 11, 12, 13, 14, 15, 16, 17, 18, 19, 20, 21, 22, 23, 24, 25, 26, 27, 28, 29, 30, 31, 32, 33, 34, 35, 36, 37, 38, 39, 40, 41, 42, 43, 44, 45, 46, 47, 48, 49] (by decide +kernel) (by decide +kernel)) (goodIn_sub (fun _ h => List.mem_cons_of_mem _ (List.mem_append_right _ h)) (by decide +kernel))
set_option maxRecDepth 20000 in
theorem gL_removeEntry_X3_removeEntry : GoodIn wsL_removeEntry (wsV RL 50 RX3 yX3_removeEntry wsX3_removeEntry) := goodIn_app (goodIn_of _ (by decide +kernel)) ggL_removeEntry_X3_removeEntry
theorem dL_removeEntry_0 : decode cL_removeEntry 0 = .ok (.aload_n 2, 1) := by decide +kernel
theorem dL_removeEntry_1 : decode cL_removeEntry 1 = .ok (.iconst 0, 1) := by decide +kernel
theorem dL_removeEntry_2 : decode cL_removeEntry 2 = .ok (.aload_n 0, 1) := by decide +kernel
theorem dL_removeEntry_3 : decode cL_removeEntry 3 = .ok (.iload_n 1, 1) := by decide +kernel
theorem dL_removeEntry_4 : decode cL_removeEntry 4 = .ok (.invokevirtual 50, 3) := by decide +kernel
theorem dL_removeEntry_7 : decode cL_removeEntry 7 = .ok (.i2l, 1) := by decide +kernel
theorem dL_removeEntry_8 : decode cL_removeEntry 8 = .ok (.lastore, 1) := by decide +kernel
theorem dL_removeEntry_9 : decode cL_removeEntry 9 = .ok (.goto 6, 3) := by decide +kernel
theorem dL_removeEntry_12 : decode cL_removeEntry 12 = .ok (.astore_n 3, 1) := by decide +kernel
theorem dL_removeEntry_13 : decode cL_removeEntry 13 = .ok (.iconst 1, 1) := by decide +kernel
theorem dL_removeEntry_14 : decode cL_removeEntry 14 = .ok (.ireturn, 1) := by decide +kernel
theorem dL_removeEntry_15 : decode cL_removeEntry 15 = .ok (.iconst 0, 1) := by decide +kernel
theorem dL_removeEntry_16 : decode cL_removeEntry 16 = .ok (.ireturn, 1) := by decide +kernel
set_option maxRecDepth 20000 in
theorem ggL_entry_X3_entry : GoodIn wsL_entry wsX3_entry := goodIn_ca (goodIn_r _ [6, 7, 8, 9, 10, 11, 12, 5, 13, 14, 15, 16, 17, 18, 19, 20, 21, 22, 23, 24, 25, 26, 27, 28, 29, 30, 31, 32, 33, 34, 35, 36, 37, 38] (by decide +kernel) (by decide +kernel)) (goodIn_sub (fun _ h => List.mem_cons_of_mem _ (List.mem_append_right _ h)) (by decide +kernel))
set_option maxRecDepth 20000 in
theorem gL_entry_X3_entry : GoodIn wsL_entry (wsV RL 53 RX3 yX3_entry wsX3_entry) := goodIn_app (goodIn_of _ (by decide +kernel)) ggL_entry_X3_entry
theorem dL_entry_0 : decode cL_entry 0 = .ok (.aload_n 3, 1) := by decide +kernel
theorem dL_entry_1 : decode cL_entry 1 = .ok (.iconst 0, 1) := by decide +kernel
theorem dL_entry_2 : decode cL_entry 2 = .ok (.aload_n 0, 1) := by decide +kernel
theorem dL_entry_3 : decode cL_entry 3 = .ok (.iload_n 1, 1) := by decide +kernel
theorem dL_entry_4 : decode cL_entry 4 = .ok (.iload_n 2, 1) := by decide +kernel
theorem dL_entry_5 : decode cL_entry 5 = .ok (.invokevirtual 53, 3) := by decide +kernel
theorem dL_entry_8 : decode cL_entry 8 = .ok (.i2l, 1) := by decide +kernel
theorem dL_entry_9 : decode cL_entry 9 = .ok (.lastore, 1) := by decide +kernel
theorem dL_entry_10 : decode cL_entry 10 = .ok (.goto 7, 3) := by decide +kernel
theorem dL_entry_13 : decode cL_entry 13 = .ok (.astore 4, 2) := by decide +kernel
theorem dL_entry_15 : decode cL_entry 15 = .ok (.iconst 1, 1) := by decide +kernel
theorem dL_entry_16 : decode cL_entry 16 = .ok (.ireturn, 1) := by decide +kernel
theorem dL_entry_17 : decode cL_entry 17 = .ok (.iconst 0, 1) := by decide +kernel
theorem dL_entry_18 : decode cL_entry 18 = .ok (.ireturn, 1) := by decide +kernel
set_option maxRecDepth 20000 in
theorem ggL_taker_X3_taker : GoodIn wsL_taker wsX3_taker := goodIn_ca (goodIn_r _ [6, 7, 8, 9, 10, 11, 5, 12, 13, 14, 15, 16, 17, 18, 19, 20, 21, 22, 23, 24, 25, 26, 27, 28, 29, 30, 31, 32, 33, 34, 35, 36, 37, 38, 39, 40, 41, 42, 43, 44, 45, 46, 47, 48, 49, 50, 51, 52, 53, 54, 55, 56, 57, 58, 59, 60, 61, 62, 63, 64] (by decide +kernel) (by decide +kernel)) (goodIn_sub (fun _ h => List.mem_cons_of_mem _ (List.mem_append_right _ h)) (by decide +kernel))
set_option maxRecDepth 20000 in
theorem gL_taker_X3_taker : GoodIn wsL_taker (wsV RL 56 RX3 yX3_taker wsX3_taker) := goodIn_app (goodIn_of _ (by decide +kernel)) ggL_taker_X3_taker
theorem dL_taker_0 : decode cL_taker 0 = .ok (.aload_n 3, 1) := by decide +kernel
theorem dL_taker_1 : decode cL_taker 1 = .ok (.iconst 0, 1) := by decide +kernel
theorem dL_taker_2 : decode cL_taker 2 = .ok (.aload_n 0, 1) := by decide +kernel
theorem dL_taker_3 : decode cL_taker 3 = .ok (.iload_n 1, 1) := by decide +kernel
theorem dL_taker_4 : decode cL_taker 4 = .ok (.iload_n 2, 1) := by decide +kernel
theorem dL_taker_5 : decode cL_taker 5 = .ok (.invokevirtual 56, 3) := by decide +kernel
theorem dL_taker_8 : decode cL_taker 8 = .ok (.i2l, 1) := by decide +kernel
theorem dL_taker_9 : decode cL_taker 9 = .ok (.lastore, 1) := by decide +kernel
theorem dL_taker_10 : decode cL_taker 10 = .ok (.goto 7, 3) := by decide +kernel
theorem dL_taker_13 : decode cL_taker 13 = .ok (.astore 4, 2) := by decide +kernel
theorem dL_taker_15 : decode cL_taker 15 = .ok (.iconst 1, 1) := by decide +kernel
theorem dL_taker_16 : decode cL_taker 16 = .ok (.ireturn, 1) := by decide +kernel
theorem dL_taker_17 : decode cL_taker 17 = .ok (.iconst 0, 1) := by decide +kernel
theorem dL_taker_18 : decode cL_taker 18 = .ok (.ireturn, 1) := by decide +kernel
set_option maxRecDepth 20000 in
theorem ggL_isReached_X3_isReached : GoodIn wsL_isReached wsX3_isReached := goodIn_ca (goodIn_r _ [6, 7, 8, 9, 10, 5, 11, 12, 13, 14, 15, 16, 17, 18, 19, 20, 21, 22, 23, 24, 25, 26, 27, 28, 29, 30, 31, 32, 33, 34, 35, 36, 37, 38, 39, 40, 41, 42, 43, 44, 45, 46, 47, 48, 49, 50, 51, 52, 53, 54, 55, 56, 57, 58, 59, 60, 61, 62, 63, 64, 65, 66, 67, 68, 69, 70, 71, 72, 73, 74, 75, 76, 77, 78, 79] (by decide +kernel) (by decide +kernel)) (goodIn_sub (fun _ h => List.mem_cons_of_mem _ (List.mem_append_right _ h)) (by decide +kernel))
set_option maxRecDepth 20000 in
theorem gL_isReached_X3_isReached : GoodIn wsL_isReached (wsV RL 59 RX3 yX3_isReached wsX3_isReached) := goodIn_app (goodIn_of _ (by decide +kernel)) ggL_isReached_X3_isReached
theorem dL_isReached_0 : decode cL_isReached 0 = .ok (.aload_n 2, 1) := by decide +kernel
theorem dL_isReached_1 : decode cL_isReached 1 = .ok (.iconst 0, 1) := by decide +kernel
theorem dL_isReached_2 : decode cL_isReached 2 = .ok (.aload_n 0, 1) := by decide +kernel
theorem dL_isReached_3 : decode cL_isReached 3 = .ok (.iload_n 1, 1) := by decide +kernel
theorem dL_isReached_4 : decode cL_isReached 4 = .ok (.invokevirtual 59, 3) := by decide +kernel
theorem dL_isReached_7 : decode cL_isReached 7 = .ok (.ifCond .eq 7, 3) := by decide +kernel
theorem dL_isReached_10 : decode cL_isReached 10 = .ok (.lconst 1, 1) := by decide +kernel
theorem dL_isReached_11 : decode cL_isReached 11 = .ok (.goto 4, 3) := by decide +kernel
theorem dL_isReached_14 : decode cL_isReached 14 = .ok (.lconst 0, 1) := by decide +kernel
theorem dL_isReached_15 : decode cL_isReached 15 = .ok (.lastore, 1) := by decide +kernel
theorem dL_isReached_16 : decode cL_isReached 16 = .ok (.goto 6, 3) := by decide +kernel
theorem dL_isReached_19 : decode cL_isReached 19 = .ok (.astore_n 3, 1) := by decide +kernel
theorem dL_isReached_20 : decode cL_isReached 20 = .ok (.iconst 1, 1) := by decide +kernel
theorem dL_isReached_21 : decode cL_isReached 21 = .ok (.ireturn, 1) := by decide +kernel
theorem dL_isReached_22 : decode cL_isReached 22 = .ok (.iconst 0, 1) := by decide +kernel
theorem dL_isReached_23 : decode cL_isReached 23 = .ok (.ireturn, 1) := by decide +kernel
set_option maxRecDepth 20000 in
theorem ggL_isUsed_X3_isUsed : GoodIn wsL_isUsed wsX3_isUsed := goodIn_ca (goodIn_r _ [6, 7, 8, 9, 5, 10, 11, 12, 13, 14, 15, 16, 17, 18, 19, 20, 21, 22, 23, 24, 25, 26, 27, 28, 29, 30, 31, 32, 33, 34, 35, 36, 37, 38, 39, 40, 41, 42, 43, 44, 45, 46, 47, 48, 49, 50, 51, 52, 53, 54, 55, 56, 57, 58, 59, 60, 61, 62, 63, 64, 65, 66, 67, 68, 69, 70, 71, 72, 73, 74, 75, 76, 77, 78, 79, 80, 81, 82, 83, 84, 85, 86, 87, 88, 89, 90, 91, 92, 93, 94, 95, 96, 97, 98, 99, 100] (by decide +kernel) (by decide +kernel)) (goodIn_sub (fun _ h => List.mem_cons_of_mem _ (List.mem_append_right _ h)) (by decide +kernel))
set_option maxRecDepth 20000 in
theorem gL_isUsed_X3_isUsed : GoodIn wsL_isUsed (wsV RL 63 RX3 yX3_isUsed wsX3_isUsed) := goodIn_app (goodIn_of _ (by decide +kernel)) ggL_isUsed_X3_isUsed
theorem dL_isUsed_0 : decode cL_isUsed 0 = .ok (.aload_n 2, 1) := by decide +kernel
theorem dL_isUsed_1 : decode cL_isUsed 1 = .ok (.iconst 0, 1) := by decide +kernel
theorem dL_isUsed_2 : decode cL_isUsed 2 = .ok (.aload_n 0, 1) := by decide +kernel
theorem dL_isUsed_3 : decode cL_isUsed 3 = .ok (.iload_n 1, 1) := by decide +kernel
theorem dL_isUsed_4 : decode cL_isUsed 4 = .ok (.invokevirtual 63, 3) := by decide +kernel
theorem dL_isUsed_7 : decode cL_isUsed 7 = .ok (.ifCond .eq 7, 3) := by decide +kernel
theorem dL_isUsed_10 : decode cL_isUsed 10 = .ok (.lconst 1, 1) := by decide +kernel
theorem dL_isUsed_11 : decode cL_isUsed 11 = .ok (.goto 4, 3) := by decide +kernel
theorem dL_isUsed_14 : decode cL_isUsed 14 = .ok (.lconst 0, 1) := by decide +kernel
theorem dL_isUsed_15 : decode cL_isUsed 15 = .ok (.lastore, 1) := by decide +kernel
theorem dL_isUsed_16 : decode cL_isUsed 16 = .ok (.goto 6, 3) := by decide +kernel
theorem dL_isUsed_19 : decode cL_isUsed 19 = .ok (.astore_n 3, 1) := by decide +kernel
theorem dL_isUsed_20 : decode cL_isUsed 20 = .ok (.iconst 1, 1) := by decide +kernel
theorem dL_isUsed_21 : decode cL_isUsed 21 = .ok (.ireturn, 1) := by decide +kernel
theorem dL_isUsed_22 : decode cL_isUsed 22 = .ok (.iconst 0, 1) := by decide +kernel
theorem dL_isUsed_23 : decode cL_isUsed 23 = .ok (.ireturn, 1) := by decide +kernel
set_option maxRecDepth 20000 in
theorem ggL_run_X3_run : GoodIn wsL_run wsX3_run := goodIn_ca (goodIn_r _ [6, 7, 8, 9, 10, 11, 12, 13, 14, 15, 16, 17, 18, 19, 20, 21, 22, 23, 24, 25, 26, 27, 28, 29, 30, 31, 32, 33, 5, 34, 35, 36, 37, 38, 39, 40, 41, 42, 43, 44, 45, 46, 47, 48, 49, 50, 51, 52, 53, 54, 55, 56, 57, 58, 59, 60, 61, 62, 63, 64, 65, 66, 67, 68, 69, 70, 71, 72, 73, 74, 75, 76, 77, 78, 79, 80, 81, 82, 83, 84, 85, 86, 87, 88, 89] (by decide +kernel) (by decide +kernel)) (goodIn_sub (fun _ h => List.mem_cons_of_mem _ (List.mem_append_right _ h)) (by decide +kernel))
set_option maxRecDepth 20000 in
theorem gL_run_X3_run : GoodIn wsL_run (wsV RL 66 RX3 yX3_run wsX3_run) := goodIn_app (goodIn_of _ (by decide +kernel)) ggL_run_X3_run
theorem dL_run_0 : decode cL_run 0 = .ok (.aload 4, 2) := by decide +kernel
theorem dL_run_2 : decode cL_run 2 = .ok (.iconst 0, 1) := by decide +kernel
theorem dL_run_3 : decode cL_run 3 = .ok (.aload_n 0, 1) := by decide +kernel
theorem dL_run_4 : decode cL_run 4 = .ok (.lload_n 1, 1) := by decide +kernel
theorem dL_run_5 : decode cL_run 5 = .ok (.iload_n 3, 1) := by decide +kernel
theorem dL_run_6 : decode cL_run 6 = .ok (.invokevirtual 66, 3) := by decide +kernel
theorem dL_run_9 : decode cL_run 9 = .ok (.i2l, 1) := by decide +kernel
theorem dL_run_10 : decode cL_run 10 = .ok (.lastore, 1) := by decide +kernel
theorem dL_run_11 : decode cL_run 11 = .ok (.goto 7, 3) := by decide +kernel
theorem dL_run_14 : decode cL_run 14 = .ok (.astore 5, 2) := by decide +kernel
theorem dL_run_16 : decode cL_run 16 = .ok (.iconst 1, 1) := by decide +kernel
theorem dL_run_17 : decode cL_run 17 = .ok (.ireturn, 1) := by decide +kernel
theorem dL_run_18 : decode cL_run 18 = .ok (.iconst 0, 1) := by decide +kernel
theorem dL_run_19 : decode cL_run 19 = .ok (.ireturn, 1) := by decide +kernel

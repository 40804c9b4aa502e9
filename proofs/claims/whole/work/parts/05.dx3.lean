set_option maxRecDepth 20000 in
theorem ggX3_init_X1_init : GoodIn wsX3_init wsX1_init := goodIn_r _ [27, 28, 2, 3, 19, 29, 30, 31, 45, 46, 47] (by decide +kernel) (by decide +kernel)
set_option maxRecDepth 20000 in
theorem gX3_init_X1_init_n11 : GoodIn wsX3_init (wsX1_init) := ggX3_init_X1_init
set_option maxRecDepth 20000 in
theorem ggX3_init_X0_init : GoodIn wsX3_init wsX0_init := goodIn_r _ [33, 34, 2, 3, 19, 35, 36, 37, 63, 64, 65, 66] (by decide +kernel) (by decide +kernel)
set_option maxRecDepth 20000 in
theorem gX3_init_X0_init_n18 : GoodIn wsX3_init (wsX0_init) := ggX3_init_X0_init
set_option maxRecDepth 20000 in
theorem ggX3_init_X2_init : GoodIn wsX3_init wsX2_init := goodIn_r _ [39, 40, 2, 3, 19, 41, 42, 43, 44, 67, 68, 69, 70, 71] (by decide +kernel) (by decide +kernel)
set_option maxRecDepth 20000 in
theorem gX3_init_X2_init_n25 : GoodIn wsX3_init (wsX2_init) := ggX3_init_X2_init
theorem dX3_init_0 : decode cX3_init 0 = .ok (.aload_n 0, 1) := by decide +kernel
theorem dX3_init_1 : decode cX3_init 1 = .ok (.invokespecial 3, 3) := by decide +kernel
theorem dX3_init_4 : decode cX3_init 4 = .ok (.aload_n 0, 1) := by decide +kernel
theorem dX3_init_5 : decode cX3_init 5 = .ok (.new 9, 3) := by decide +kernel
theorem dX3_init_8 : decode cX3_init 8 = .ok (.dup, 1) := by decide +kernel
theorem dX3_init_9 : decode cX3_init 9 = .ok (.invokespecial 11, 3) := by decide +kernel
theorem dX3_init_12 : decode cX3_init 12 = .ok (.putfield 12, 3) := by decide +kernel
theorem dX3_init_15 : decode cX3_init 15 = .ok (.aload_n 0, 1) := by decide +kernel
theorem dX3_init_16 : decode cX3_init 16 = .ok (.new 16, 3) := by decide +kernel
theorem dX3_init_19 : decode cX3_init 19 = .ok (.dup, 1) := by decide +kernel
theorem dX3_init_20 : decode cX3_init 20 = .ok (.invokespecial 18, 3) := by decide +kernel
theorem dX3_init_23 : decode cX3_init 23 = .ok (.putfield 19, 3) := by decide +kernel
theorem dX3_init_26 : decode cX3_init 26 = .ok (.aload_n 0, 1) := by decide +kernel
theorem dX3_init_27 : decode cX3_init 27 = .ok (.new 23, 3) := by decide +kernel
theorem dX3_init_30 : decode cX3_init 30 = .ok (.dup, 1) := by decide +kernel
theorem dX3_init_31 : decode cX3_init 31 = .ok (.invokespecial 25, 3) := by decide +kernel
theorem dX3_init_34 : decode cX3_init 34 = .ok (.putfield 26, 3) := by decide +kernel
theorem dX3_init_37 : decode cX3_init 37 = .ok (.aload_n 0, 1) := by decide +kernel
theorem dX3_init_38 : decode cX3_init 38 = .ok (.new 23, 3) := by decide +kernel
theorem dX3_init_41 : decode cX3_init 41 = .ok (.dup, 1) := by decide +kernel
theorem dX3_init_42 : decode cX3_init 42 = .ok (.invokespecial 25, 3) := by decide +kernel
theorem dX3_init_45 : decode cX3_init 45 = .ok (.putfield 30, 3) := by decide +kernel
theorem dX3_init_48 : decode cX3_init 48 = .ok (.aload_n 0, 1) := by decide +kernel
theorem dX3_init_49 : decode cX3_init 49 = .ok (.bipush 48, 2) := by decide +kernel
theorem dX3_init_51 : decode cX3_init 51 = .ok (.newarray .boolean, 2) := by decide +kernel
theorem dX3_init_53 : decode cX3_init 53 = .ok (.putfield 33, 3) := by decide +kernel
theorem dX3_init_56 : decode cX3_init 56 = .ok (.aload_n 0, 1) := by decide +kernel
theorem dX3_init_57 : decode cX3_init 57 = .ok (.bipush 48, 2) := by decide +kernel
theorem dX3_init_59 : decode cX3_init 59 = .ok (.newarray .int, 2) := by decide +kernel
theorem dX3_init_61 : decode cX3_init 61 = .ok (.putfield 37, 3) := by decide +kernel
theorem dX3_init_64 : decode cX3_init 64 = .ok (.aload_n 0, 1) := by decide +kernel
theorem dX3_init_65 : decode cX3_init 65 = .ok (.bipush 24, 2) := by decide +kernel
theorem dX3_init_67 : decode cX3_init 67 = .ok (.newarray .int, 2) := by decide +kernel
theorem dX3_init_69 : decode cX3_init 69 = .ok (.putfield 41, 3) := by decide +kernel
theorem dX3_init_72 : decode cX3_init 72 = .ok (.aload_n 0, 1) := by decide +kernel
theorem dX3_init_73 : decode cX3_init 73 = .ok (.bipush 24, 2) := by decide +kernel
theorem dX3_init_75 : decode cX3_init 75 = .ok (.newarray .int, 2) := by decide +kernel
theorem dX3_init_77 : decode cX3_init 77 = .ok (.putfield 44, 3) := by decide +kernel
theorem dX3_init_80 : decode cX3_init 80 = .ok (.aload_n 0, 1) := by decide +kernel
theorem dX3_init_81 : decode cX3_init 81 = .ok (.sipush 384, 3) := by decide +kernel
theorem dX3_init_84 : decode cX3_init 84 = .ok (.newarray .int, 2) := by decide +kernel
theorem dX3_init_86 : decode cX3_init 86 = .ok (.putfield 47, 3) := by decide +kernel
theorem dX3_init_89 : decode cX3_init 89 = .ok (.aload_n 0, 1) := by decide +kernel
theorem dX3_init_90 : decode cX3_init 90 = .ok (.bipush 49, 2) := by decide +kernel
theorem dX3_init_92 : decode cX3_init 92 = .ok (.newarray .int, 2) := by decide +kernel
theorem dX3_init_94 : decode cX3_init 94 = .ok (.putfield 50, 3) := by decide +kernel
theorem dX3_init_97 : decode cX3_init 97 = .ok (.aload_n 0, 1) := by decide +kernel
theorem dX3_init_98 : decode cX3_init 98 = .ok (.iconst (-1), 1) := by decide +kernel
theorem dX3_init_99 : decode cX3_init 99 = .ok (.putfield 53, 3) := by decide +kernel
theorem dX3_init_102 : decode cX3_init 102 = .ok (.return_, 1) := by decide +kernel
set_option maxRecDepth 20000 in
theorem ggX3_addKind_X3_requireKind : GoodIn wsX3_addKind wsX3_requireKind := goodIn_ca (goodIn_r _ [8, 9, 10, 3, 11, 12, 13, 14, 15, 28, 29, 30, 31, 32, 33, 34, 35, 36, 37, 38, 39, 40, 41, 42, 43, 44, 45] (by decide +kernel) (by decide +kernel)) (goodIn_sub (fun _ h => List.mem_cons_of_mem _ (List.mem_append_right _ h)) (by decide +kernel))
set_option maxRecDepth 20000 in
theorem gX3_addKind_X3_requireKind : GoodIn wsX3_addKind (wsV RX3 57 RX3 yX3_requireKind wsX3_requireKind) := goodIn_app (goodIn_of _ (by decide +kernel)) ggX3_addKind_X3_requireKind
set_option maxRecDepth 20000 in
theorem ggX3_addKind_X1_isFull : GoodIn wsX3_addKind wsX1_isFull := goodIn_r _ [18, 15, 43, 44, 45] (by decide +kernel) (by decide +kernel)
set_option maxRecDepth 20000 in
theorem gX3_addKind_X1_isFull_n61 : GoodIn wsX3_addKind (wsX1_isFull) := ggX3_addKind_X1_isFull
set_option maxRecDepth 20000 in
theorem ggX3_addKind_X1_append : GoodIn wsX3_addKind wsX1_append := goodIn_r _ [21, 15, 22, 23, 24, 25, 26, 12, 27, 43, 44, 45] (by decide +kernel) (by decide +kernel)
set_option maxRecDepth 20000 in
theorem gX3_addKind_X1_append_n72 : GoodIn wsX3_addKind (wsX1_append) := ggX3_addKind_X1_append
theorem dX3_addKind_0 : decode cX3_addKind 0 = .ok (.aload_n 0, 1) := by decide +kernel
theorem dX3_addKind_1 : decode cX3_addKind 1 = .ok (.iload_n 1, 1) := by decide +kernel
theorem dX3_addKind_2 : decode cX3_addKind 2 = .ok (.invokevirtual 57, 3) := by decide +kernel
theorem dX3_addKind_5 : decode cX3_addKind 5 = .ok (.aload_n 0, 1) := by decide +kernel
theorem dX3_addKind_6 : decode cX3_addKind 6 = .ok (.getfield 12, 3) := by decide +kernel
theorem dX3_addKind_9 : decode cX3_addKind 9 = .ok (.invokevirtual 61, 3) := by decide +kernel
theorem dX3_addKind_12 : decode cX3_addKind 12 = .ok (.ifCond .eq 13, 3) := by decide +kernel
theorem dX3_addKind_15 : decode cX3_addKind 15 = .ok (.new 65, 3) := by decide +kernel
theorem dX3_addKind_18 : decode cX3_addKind 18 = .ok (.dup, 1) := by decide +kernel
theorem dX3_addKind_19 : decode cX3_addKind 19 = .ok (.ldc 67, 2) := by decide +kernel
theorem dX3_addKind_21 : decode cX3_addKind 21 = .ok (.invokespecial 69, 3) := by decide +kernel
theorem dX3_addKind_24 : decode cX3_addKind 24 = .ok (.athrow, 1) := by decide +kernel
theorem dX3_addKind_25 : decode cX3_addKind 25 = .ok (.aload_n 0, 1) := by decide +kernel
theorem dX3_addKind_26 : decode cX3_addKind 26 = .ok (.getfield 12, 3) := by decide +kernel
theorem dX3_addKind_29 : decode cX3_addKind 29 = .ok (.iload_n 1, 1) := by decide +kernel
theorem dX3_addKind_30 : decode cX3_addKind 30 = .ok (.invokevirtual 72, 3) := by decide +kernel
theorem dX3_addKind_33 : decode cX3_addKind 33 = .ok (.ireturn, 1) := by decide +kernel
theorem dX3_kindCount_0 : decode cX3_kindCount 0 = .ok (.aload_n 0, 1) := by decide +kernel
theorem dX3_kindCount_1 : decode cX3_kindCount 1 = .ok (.getfield 12, 3) := by decide +kernel
theorem dX3_kindCount_4 : decode cX3_kindCount 4 = .ok (.getfield 76, 3) := by decide +kernel
theorem dX3_kindCount_7 : decode cX3_kindCount 7 = .ok (.ireturn, 1) := by decide +kernel
set_option maxRecDepth 20000 in
theorem ggX3_isBelow_X3_requireKind : GoodIn wsX3_isBelow wsX3_requireKind := goodIn_ca (goodIn_r _ [6, 7, 8, 1, 9, 10, 11, 12, 13, 18, 19, 20, 21, 22, 23, 24, 25, 26, 27, 28, 29, 30, 31, 32, 33, 34, 35] (by decide +kernel) (by decide +kernel)) (goodIn_sub (fun _ h => List.mem_cons_of_mem _ (List.mem_append_right _ h)) (by decide +kernel))
set_option maxRecDepth 20000 in
theorem gX3_isBelow_X3_requireKind : GoodIn wsX3_isBelow (wsV RX3 57 RX3 yX3_requireKind wsX3_requireKind) := goodIn_app (goodIn_of _ (by decide +kernel)) ggX3_isBelow_X3_requireKind
set_option maxRecDepth 20000 in
theorem ggX3_isBelow_X1_isInFamily : GoodIn wsX3_isBelow wsX1_isInFamily := goodIn_r _ [16, 17, 33, 34, 35] (by decide +kernel) (by decide +kernel)
set_option maxRecDepth 20000 in
theorem gX3_isBelow_X1_isInFamily_n79 : GoodIn wsX3_isBelow (wsX1_isInFamily) := ggX3_isBelow_X1_isInFamily
theorem dX3_isBelow_0 : decode cX3_isBelow 0 = .ok (.aload_n 0, 1) := by decide +kernel
theorem dX3_isBelow_1 : decode cX3_isBelow 1 = .ok (.iload_n 1, 1) := by decide +kernel
theorem dX3_isBelow_2 : decode cX3_isBelow 2 = .ok (.invokevirtual 57, 3) := by decide +kernel
theorem dX3_isBelow_5 : decode cX3_isBelow 5 = .ok (.aload_n 0, 1) := by decide +kernel
theorem dX3_isBelow_6 : decode cX3_isBelow 6 = .ok (.iload_n 2, 1) := by decide +kernel
theorem dX3_isBelow_7 : decode cX3_isBelow 7 = .ok (.invokevirtual 57, 3) := by decide +kernel
theorem dX3_isBelow_10 : decode cX3_isBelow 10 = .ok (.iload_n 1, 1) := by decide +kernel
theorem dX3_isBelow_11 : decode cX3_isBelow 11 = .ok (.iload_n 2, 1) := by decide +kernel
theorem dX3_isBelow_12 : decode cX3_isBelow 12 = .ok (.if_icmp .eq 19, 3) := by decide +kernel
theorem dX3_isBelow_15 : decode cX3_isBelow 15 = .ok (.aload_n 0, 1) := by decide +kernel
theorem dX3_isBelow_16 : decode cX3_isBelow 16 = .ok (.getfield 12, 3) := by decide +kernel
theorem dX3_isBelow_19 : decode cX3_isBelow 19 = .ok (.iload_n 1, 1) := by decide +kernel
theorem dX3_isBelow_20 : decode cX3_isBelow 20 = .ok (.iload_n 2, 1) := by decide +kernel
theorem dX3_isBelow_21 : decode cX3_isBelow 21 = .ok (.invokevirtual 79, 3) := by decide +kernel
theorem dX3_isBelow_24 : decode cX3_isBelow 24 = .ok (.ifCond .eq 7, 3) := by decide +kernel
theorem dX3_isBelow_27 : decode cX3_isBelow 27 = .ok (.iconst 1, 1) := by decide +kernel
theorem dX3_isBelow_28 : decode cX3_isBelow 28 = .ok (.goto 4, 3) := by decide +kernel
theorem dX3_isBelow_31 : decode cX3_isBelow 31 = .ok (.iconst 0, 1) := by decide +kernel
theorem dX3_isBelow_32 : decode cX3_isBelow 32 = .ok (.ireturn, 1) := by decide +kernel
set_option maxRecDepth 20000 in
theorem ggX3_common_X3_requireKind : GoodIn wsX3_common wsX3_requireKind := goodIn_ca (goodIn_r _ [6, 7, 8, 1, 9, 10, 11, 12, 13, 26, 27, 28, 29, 30, 31, 32, 33, 34, 35, 36, 37, 38, 39, 40, 41, 42, 43] (by decide +kernel) (by decide +kernel)) (goodIn_sub (fun _ h => List.mem_cons_of_mem _ (List.mem_append_right _ h)) (by decide +kernel))
set_option maxRecDepth 20000 in
theorem gX3_common_X3_requireKind : GoodIn wsX3_common (wsV RX3 57 RX3 yX3_requireKind wsX3_requireKind) := goodIn_app (goodIn_of _ (by decide +kernel)) ggX3_common_X3_requireKind
set_option maxRecDepth 20000 in
theorem ggX3_common_X1_lowestAbove : GoodIn wsX3_common wsX1_lowestAbove := goodIn_r _ [16, 17, 18, 19, 20, 21, 22, 23, 10, 24, 25, 41, 42, 43] (by decide +kernel) (by decide +kernel)
set_option maxRecDepth 20000 in
theorem gX3_common_X1_lowestAbove_n83 : GoodIn wsX3_common (wsX1_lowestAbove) := ggX3_common_X1_lowestAbove
theorem dX3_common_0 : decode cX3_common 0 = .ok (.aload_n 0, 1) := by decide +kernel
theorem dX3_common_1 : decode cX3_common 1 = .ok (.iload_n 1, 1) := by decide +kernel
theorem dX3_common_2 : decode cX3_common 2 = .ok (.invokevirtual 57, 3) := by decide +kernel
theorem dX3_common_5 : decode cX3_common 5 = .ok (.aload_n 0, 1) := by decide +kernel
theorem dX3_common_6 : decode cX3_common 6 = .ok (.iload_n 2, 1) := by decide +kernel
theorem dX3_common_7 : decode cX3_common 7 = .ok (.invokevirtual 57, 3) := by decide +kernel
theorem dX3_common_10 : decode cX3_common 10 = .ok (.aload_n 0, 1) := by decide +kernel
theorem dX3_common_11 : decode cX3_common 11 = .ok (.getfield 12, 3) := by decide +kernel
theorem dX3_common_14 : decode cX3_common 14 = .ok (.iload_n 1, 1) := by decide +kernel
theorem dX3_common_15 : decode cX3_common 15 = .ok (.iload_n 2, 1) := by decide +kernel
theorem dX3_common_16 : decode cX3_common 16 = .ok (.invokevirtual 83, 3) := by decide +kernel
theorem dX3_common_19 : decode cX3_common 19 = .ok (.ireturn, 1) := by decide +kernel
set_option maxRecDepth 20000 in
theorem ggX3_step_X3_requireKindSet : GoodIn wsX3_step wsX3_requireKindSet := goodIn_ca (goodIn_r _ [6, 7, 8, 9, 10, 11, 12, 13, 14, 32, 33, 34, 35, 36, 37, 38, 39, 40, 41, 42, 43, 44, 45, 46, 47, 48, 49] (by decide +kernel) (by decide +kernel)) (goodIn_sub (fun _ h => List.mem_cons_of_mem _ (List.mem_append_left _ (List.mem_append_right _ h))) (by decide +kernel))
set_option maxRecDepth 20000 in
theorem gX3_step_X3_requireKindSet : GoodIn wsX3_step (wsV RX3 87 RX3 yX3_requireKindSet wsX3_requireKindSet) := goodIn_app (goodIn_of _ (by decide +kernel)) ggX3_step_X3_requireKindSet
set_option maxRecDepth 20000 in
theorem ggX3_step_X3_requireRoomForCode : GoodIn wsX3_step wsX3_requireRoomForCode := goodIn_ca (goodIn_r _ [18, 19, 20, 1, 21, 22, 23, 24, 25, 32, 33, 34, 35, 36, 37, 38, 39, 40, 41, 42, 43, 44, 45, 46, 50, 51, 52, 53] (by decide +kernel) (by decide +kernel)) (goodIn_sub (fun _ h => List.mem_cons_of_mem _ (List.mem_append_right _ h)) (by decide +kernel))
set_option maxRecDepth 20000 in
theorem gX3_step_X3_requireRoomForCode : GoodIn wsX3_step (wsV RX3 90 RX3 yX3_requireRoomForCode wsX3_requireRoomForCode) := goodIn_app (goodIn_of _ (by decide +kernel)) ggX3_step_X3_requireRoomForCode
set_option maxRecDepth 20000 in
theorem ggX3_step_X0_append : GoodIn wsX3_step wsX0_append := goodIn_r _ [28, 25, 29, 30, 31, 50, 51, 52, 53] (by decide +kernel) (by decide +kernel)
set_option maxRecDepth 20000 in
theorem gX3_step_X0_append_n93 : GoodIn wsX3_step (wsX0_append) := ggX3_step_X0_append
theorem dX3_step_0 : decode cX3_step 0 = .ok (.aload_n 0, 1) := by decide +kernel
theorem dX3_step_1 : decode cX3_step 1 = .ok (.iload_n 1, 1) := by decide +kernel
theorem dX3_step_2 : decode cX3_step 2 = .ok (.invokevirtual 87, 3) := by decide +kernel
theorem dX3_step_5 : decode cX3_step 5 = .ok (.aload_n 0, 1) := by decide +kernel
theorem dX3_step_6 : decode cX3_step 6 = .ok (.invokevirtual 90, 3) := by decide +kernel
theorem dX3_step_9 : decode cX3_step 9 = .ok (.aload_n 0, 1) := by decide +kernel
theorem dX3_step_10 : decode cX3_step 10 = .ok (.getfield 19, 3) := by decide +kernel
theorem dX3_step_13 : decode cX3_step 13 = .ok (.iconst 0, 1) := by decide +kernel
theorem dX3_step_14 : decode cX3_step 14 = .ok (.iload_n 1, 1) := by decide +kernel
theorem dX3_step_15 : decode cX3_step 15 = .ok (.iconst (-1), 1) := by decide +kernel
theorem dX3_step_16 : decode cX3_step 16 = .ok (.invokevirtual 93, 3) := by decide +kernel
theorem dX3_step_19 : decode cX3_step 19 = .ok (.ireturn, 1) := by decide +kernel
set_option maxRecDepth 20000 in
theorem ggX3_jump_X3_requireTarget : GoodIn wsX3_jump wsX3_requireTarget := goodIn_ca (goodIn_r _ [6, 7, 8] (by decide +kernel) (by decide +kernel)) (goodIn_sub (fun _ h => List.mem_cons_of_mem _ (List.mem_append_left _ (List.mem_append_right _ h))) (by decide +kernel))
set_option maxRecDepth 20000 in
theorem gX3_jump_X3_requireTarget : GoodIn wsX3_jump (wsV RX3 96 RX3 yX3_requireTarget wsX3_requireTarget) := goodIn_app (goodIn_of _ (by decide +kernel)) ggX3_jump_X3_requireTarget
set_option maxRecDepth 20000 in
theorem ggX3_jump_X3_requireRoomForCode : GoodIn wsX3_jump wsX3_requireRoomForCode := goodIn_ca (goodIn_r _ [12, 13, 14, 1, 15, 16, 17, 18, 19, 26, 27, 28, 29, 30, 31, 32, 33, 34, 35, 36, 37, 38, 39, 40, 41, 42, 43, 44] (by decide +kernel) (by decide +kernel)) (goodIn_sub (fun _ h => List.mem_cons_of_mem _ (List.mem_append_right _ h)) (by decide +kernel))
set_option maxRecDepth 20000 in
theorem gX3_jump_X3_requireRoomForCode : GoodIn wsX3_jump (wsV RX3 90 RX3 yX3_requireRoomForCode wsX3_requireRoomForCode) := goodIn_app (goodIn_of _ (by decide +kernel)) ggX3_jump_X3_requireRoomForCode
set_option maxRecDepth 20000 in
theorem ggX3_jump_X0_append : GoodIn wsX3_jump wsX0_append := goodIn_r _ [22, 19, 23, 24, 25, 41, 42, 43, 44] (by decide +kernel) (by decide +kernel)
set_option maxRecDepth 20000 in
theorem gX3_jump_X0_append_n93 : GoodIn wsX3_jump (wsX0_append) := ggX3_jump_X0_append
theorem dX3_jump_0 : decode cX3_jump 0 = .ok (.aload_n 0, 1) := by decide +kernel
theorem dX3_jump_1 : decode cX3_jump 1 = .ok (.iload_n 1, 1) := by decide +kernel
theorem dX3_jump_2 : decode cX3_jump 2 = .ok (.invokevirtual 96, 3) := by decide +kernel
theorem dX3_jump_5 : decode cX3_jump 5 = .ok (.aload_n 0, 1) := by decide +kernel
theorem dX3_jump_6 : decode cX3_jump 6 = .ok (.invokevirtual 90, 3) := by decide +kernel
theorem dX3_jump_9 : decode cX3_jump 9 = .ok (.aload_n 0, 1) := by decide +kernel
theorem dX3_jump_10 : decode cX3_jump 10 = .ok (.getfield 19, 3) := by decide +kernel
theorem dX3_jump_13 : decode cX3_jump 13 = .ok (.iconst 1, 1) := by decide +kernel
theorem dX3_jump_14 : decode cX3_jump 14 = .ok (.iconst 0, 1) := by decide +kernel
theorem dX3_jump_15 : decode cX3_jump 15 = .ok (.iload_n 1, 1) := by decide +kernel
theorem dX3_jump_16 : decode cX3_jump 16 = .ok (.invokevirtual 93, 3) := by decide +kernel
theorem dX3_jump_19 : decode cX3_jump 19 = .ok (.ireturn, 1) := by decide +kernel
set_option maxRecDepth 20000 in
theorem ggX3_branch_X3_requireKindSet : GoodIn wsX3_branch wsX3_requireKindSet := goodIn_ca (goodIn_r _ [6, 7, 8, 9, 10, 11, 12, 13, 14, 36, 37, 38, 39, 40, 41, 42, 43, 44, 45, 46, 47, 48, 49, 50, 51, 52, 53] (by decide +kernel) (by decide +kernel)) (goodIn_sub (fun _ h => List.mem_cons_of_mem _ (List.mem_append_left _ (List.mem_append_right _ h))) (by decide +kernel))
set_option maxRecDepth 20000 in
theorem gX3_branch_X3_requireKindSet : GoodIn wsX3_branch (wsV RX3 87 RX3 yX3_requireKindSet wsX3_requireKindSet) := goodIn_app (goodIn_of _ (by decide +kernel)) ggX3_branch_X3_requireKindSet
set_option maxRecDepth 20000 in
theorem ggX3_branch_X3_requireTarget : GoodIn wsX3_branch wsX3_requireTarget := goodIn_ca (goodIn_r _ [18, 7, 8] (by decide +kernel) (by decide +kernel)) (goodIn_sub (fun _ h => List.mem_cons_of_mem _ (List.mem_append_left _ (List.mem_append_right _ h))) (by decide +kernel))
set_option maxRecDepth 20000 in
theorem gX3_branch_X3_requireTarget : GoodIn wsX3_branch (wsV RX3 96 RX3 yX3_requireTarget wsX3_requireTarget) := goodIn_app (goodIn_of _ (by decide +kernel)) ggX3_branch_X3_requireTarget
set_option maxRecDepth 20000 in
theorem ggX3_branch_X3_requireRoomForCode : GoodIn wsX3_branch wsX3_requireRoomForCode := goodIn_ca (goodIn_r _ [22, 23, 24, 1, 25, 26, 27, 28, 29, 36, 37, 38, 39, 40, 41, 42, 43, 44, 45, 46, 47, 48, 49, 50, 54, 55, 56, 57] (by decide +kernel) (by decide +kernel)) (goodIn_sub (fun _ h => List.mem_cons_of_mem _ (List.mem_append_right _ h)) (by decide +kernel))
set_option maxRecDepth 20000 in
theorem gX3_branch_X3_requireRoomForCode : GoodIn wsX3_branch (wsV RX3 90 RX3 yX3_requireRoomForCode wsX3_requireRoomForCode) := goodIn_app (goodIn_of _ (by decide +kernel)) ggX3_branch_X3_requireRoomForCode
set_option maxRecDepth 20000 in
theorem ggX3_branch_X0_append : GoodIn wsX3_branch wsX0_append := goodIn_r _ [32, 29, 33, 34, 35, 54, 55, 56, 57] (by decide +kernel) (by decide +kernel)
set_option maxRecDepth 20000 in
theorem gX3_branch_X0_append_n93 : GoodIn wsX3_branch (wsX0_append) := ggX3_branch_X0_append
theorem dX3_branch_0 : decode cX3_branch 0 = .ok (.aload_n 0, 1) := by decide +kernel
theorem dX3_branch_1 : decode cX3_branch 1 = .ok (.iload_n 1, 1) := by decide +kernel
theorem dX3_branch_2 : decode cX3_branch 2 = .ok (.invokevirtual 87, 3) := by decide +kernel
theorem dX3_branch_5 : decode cX3_branch 5 = .ok (.aload_n 0, 1) := by decide +kernel
theorem dX3_branch_6 : decode cX3_branch 6 = .ok (.iload_n 2, 1) := by decide +kernel
theorem dX3_branch_7 : decode cX3_branch 7 = .ok (.invokevirtual 96, 3) := by decide +kernel
theorem dX3_branch_10 : decode cX3_branch 10 = .ok (.aload_n 0, 1) := by decide +kernel
theorem dX3_branch_11 : decode cX3_branch 11 = .ok (.invokevirtual 90, 3) := by decide +kernel
theorem dX3_branch_14 : decode cX3_branch 14 = .ok (.aload_n 0, 1) := by decide +kernel
theorem dX3_branch_15 : decode cX3_branch 15 = .ok (.getfield 19, 3) := by decide +kernel
theorem dX3_branch_18 : decode cX3_branch 18 = .ok (.iconst 2, 1) := by decide +kernel
theorem dX3_branch_19 : decode cX3_branch 19 = .ok (.iload_n 1, 1) := by decide +kernel
theorem dX3_branch_20 : decode cX3_branch 20 = .ok (.iload_n 2, 1) := by decide +kernel
theorem dX3_branch_21 : decode cX3_branch 21 = .ok (.invokevirtual 93, 3) := by decide +kernel
theorem dX3_branch_24 : decode cX3_branch 24 = .ok (.ireturn, 1) := by decide +kernel
set_option maxRecDepth 20000 in
theorem ggX3_end_X3_requireRoomForCode : GoodIn wsX3_end wsX3_requireRoomForCode := goodIn_ca (goodIn_r _ [6, 7, 8, 1, 9, 10, 11, 12, 13, 20, 21, 22, 23, 24, 25, 26, 27, 28, 29, 30, 31, 32, 33, 34, 35, 36, 37, 38] (by decide +kernel) (by decide +kernel)) (goodIn_sub (fun _ h => List.mem_cons_of_mem _ (List.mem_append_right _ h)) (by decide +kernel))
set_option maxRecDepth 20000 in
theorem gX3_end_X3_requireRoomForCode : GoodIn wsX3_end (wsV RX3 90 RX3 yX3_requireRoomForCode wsX3_requireRoomForCode) := goodIn_app (goodIn_of _ (by decide +kernel)) ggX3_end_X3_requireRoomForCode
set_option maxRecDepth 20000 in
theorem ggX3_end_X0_append : GoodIn wsX3_end wsX0_append := goodIn_r _ [16, 13, 17, 18, 19, 35, 36, 37, 38] (by decide +kernel) (by decide +kernel)
set_option maxRecDepth 20000 in
theorem gX3_end_X0_append_n93 : GoodIn wsX3_end (wsX0_append) := ggX3_end_X0_append
theorem dX3_end_0 : decode cX3_end 0 = .ok (.aload_n 0, 1) := by decide +kernel
theorem dX3_end_1 : decode cX3_end 1 = .ok (.invokevirtual 90, 3) := by decide +kernel
theorem dX3_end_4 : decode cX3_end 4 = .ok (.aload_n 0, 1) := by decide +kernel
theorem dX3_end_5 : decode cX3_end 5 = .ok (.getfield 19, 3) := by decide +kernel
theorem dX3_end_8 : decode cX3_end 8 = .ok (.iconst 3, 1) := by decide +kernel
theorem dX3_end_9 : decode cX3_end 9 = .ok (.iconst 0, 1) := by decide +kernel
theorem dX3_end_10 : decode cX3_end 10 = .ok (.iconst (-1), 1) := by decide +kernel
theorem dX3_end_11 : decode cX3_end 11 = .ok (.invokevirtual 93, 3) := by decide +kernel
theorem dX3_end_14 : decode cX3_end 14 = .ok (.ireturn, 1) := by decide +kernel
set_option maxRecDepth 20000 in
theorem ggX3_raise_X3_requireKind : GoodIn wsX3_raise wsX3_requireKind := goodIn_ca (goodIn_r _ [6, 7, 8, 9, 10, 11, 12, 13, 14, 32, 33, 34, 35, 36, 37, 38, 39, 40, 41, 42, 43, 44, 45, 46, 47, 48, 49] (by decide +kernel) (by decide +kernel)) (goodIn_sub (fun _ h => List.mem_cons_of_mem _ (List.mem_append_left _ (List.mem_append_right _ h))) (by decide +kernel))
set_option maxRecDepth 20000 in
theorem gX3_raise_X3_requireKind : GoodIn wsX3_raise (wsV RX3 57 RX3 yX3_requireKind wsX3_requireKind) := goodIn_app (goodIn_of _ (by decide +kernel)) ggX3_raise_X3_requireKind
set_option maxRecDepth 20000 in
theorem ggX3_raise_X3_requireRoomForCode : GoodIn wsX3_raise wsX3_requireRoomForCode := goodIn_ca (goodIn_r _ [18, 19, 20, 1, 21, 22, 23, 24, 25, 32, 33, 34, 35, 36, 37, 38, 39, 40, 41, 42, 43, 44, 45, 46, 50, 51, 52, 53] (by decide +kernel) (by decide +kernel)) (goodIn_sub (fun _ h => List.mem_cons_of_mem _ (List.mem_append_right _ h)) (by decide +kernel))
set_option maxRecDepth 20000 in
theorem gX3_raise_X3_requireRoomForCode : GoodIn wsX3_raise (wsV RX3 90 RX3 yX3_requireRoomForCode wsX3_requireRoomForCode) := goodIn_app (goodIn_of _ (by decide +kernel)) ggX3_raise_X3_requireRoomForCode
set_option maxRecDepth 20000 in
theorem ggX3_raise_X0_append : GoodIn wsX3_raise wsX0_append := goodIn_r _ [28, 25, 29, 30, 31, 50, 51, 52, 53] (by decide +kernel) (by decide +kernel)
set_option maxRecDepth 20000 in
theorem gX3_raise_X0_append_n93 : GoodIn wsX3_raise (wsX0_append) := ggX3_raise_X0_append
theorem dX3_raise_0 : decode cX3_raise 0 = .ok (.aload_n 0, 1) := by decide +kernel
theorem dX3_raise_1 : decode cX3_raise 1 = .ok (.iload_n 1, 1) := by decide +kernel
theorem dX3_raise_2 : decode cX3_raise 2 = .ok (.invokevirtual 57, 3) := by decide +kernel
theorem dX3_raise_5 : decode cX3_raise 5 = .ok (.aload_n 0, 1) := by decide +kernel
theorem dX3_raise_6 : decode cX3_raise 6 = .ok (.invokevirtual 90, 3) := by decide +kernel
theorem dX3_raise_9 : decode cX3_raise 9 = .ok (.aload_n 0, 1) := by decide +kernel
theorem dX3_raise_10 : decode cX3_raise 10 = .ok (.getfield 19, 3) := by decide +kernel
theorem dX3_raise_13 : decode cX3_raise 13 = .ok (.iconst 4, 1) := by decide +kernel
theorem dX3_raise_14 : decode cX3_raise 14 = .ok (.iconst 1, 1) := by decide +kernel
theorem dX3_raise_15 : decode cX3_raise 15 = .ok (.iload_n 1, 1) := by decide +kernel
theorem dX3_raise_16 : decode cX3_raise 16 = .ok (.ishl, 1) := by decide +kernel
theorem dX3_raise_17 : decode cX3_raise 17 = .ok (.iconst (-1), 1) := by decide +kernel
theorem dX3_raise_18 : decode cX3_raise 18 = .ok (.invokevirtual 93, 3) := by decide +kernel
theorem dX3_raise_21 : decode cX3_raise 21 = .ok (.ireturn, 1) := by decide +kernel
theorem dX3_size_0 : decode cX3_size 0 = .ok (.aload_n 0, 1) := by decide +kernel
theorem dX3_size_1 : decode cX3_size 1 = .ok (.getfield 19, 3) := by decide +kernel
theorem dX3_size_4 : decode cX3_size 4 = .ok (.getfield 99, 3) := by decide +kernel
theorem dX3_size_7 : decode cX3_size 7 = .ok (.ireturn, 1) := by decide +kernel
set_option maxRecDepth 20000 in
theorem ggX3_instruction_X3_requireInstruction : GoodIn wsX3_instruction wsX3_requireInstruction := goodIn_ca (goodIn_r _ [8, 1, 2, 3, 9, 10, 11, 12, 13, 14, 15, 16, 17, 18, 19, 20, 21, 22, 23, 24, 25, 26, 27, 28, 29, 30, 31, 32] (by decide +kernel) (by decide +kernel)) (goodIn_sub (fun _ h => List.mem_cons_of_mem _ (List.mem_append_right _ h)) (by decide +kernel))
set_option maxRecDepth 20000 in
theorem gX3_instruction_X3_requireInstruction : GoodIn wsX3_instruction (wsV RX3 100 RX3 yX3_requireInstruction wsX3_requireInstruction) := goodIn_app (goodIn_of _ (by decide +kernel)) ggX3_instruction_X3_requireInstruction
theorem dX3_instruction_0 : decode cX3_instruction 0 = .ok (.aload_n 0, 1) := by decide +kernel
theorem dX3_instruction_1 : decode cX3_instruction 1 = .ok (.iload_n 1, 1) := by decide +kernel
theorem dX3_instruction_2 : decode cX3_instruction 2 = .ok (.invokevirtual 100, 3) := by decide +kernel
theorem dX3_instruction_5 : decode cX3_instruction 5 = .ok (.iload_n 2, 1) := by decide +kernel
theorem dX3_instruction_6 : decode cX3_instruction 6 = .ok (.tableswitch 56 0 2 #[26, 36, 46], 26) := by decide +kernel
theorem dX3_instruction_32 : decode cX3_instruction 32 = .ok (.aload_n 0, 1) := by decide +kernel
theorem dX3_instruction_33 : decode cX3_instruction 33 = .ok (.getfield 19, 3) := by decide +kernel
theorem dX3_instruction_36 : decode cX3_instruction 36 = .ok (.getfield 103, 3) := by decide +kernel
theorem dX3_instruction_39 : decode cX3_instruction 39 = .ok (.iload_n 1, 1) := by decide +kernel
theorem dX3_instruction_40 : decode cX3_instruction 40 = .ok (.iaload, 1) := by decide +kernel
theorem dX3_instruction_41 : decode cX3_instruction 41 = .ok (.ireturn, 1) := by decide +kernel
theorem dX3_instruction_42 : decode cX3_instruction 42 = .ok (.aload_n 0, 1) := by decide +kernel
theorem dX3_instruction_43 : decode cX3_instruction 43 = .ok (.getfield 19, 3) := by decide +kernel
theorem dX3_instruction_46 : decode cX3_instruction 46 = .ok (.getfield 106, 3) := by decide +kernel
theorem dX3_instruction_49 : decode cX3_instruction 49 = .ok (.iload_n 1, 1) := by decide +kernel
theorem dX3_instruction_50 : decode cX3_instruction 50 = .ok (.iaload, 1) := by decide +kernel
theorem dX3_instruction_51 : decode cX3_instruction 51 = .ok (.ireturn, 1) := by decide +kernel
theorem dX3_instruction_52 : decode cX3_instruction 52 = .ok (.aload_n 0, 1) := by decide +kernel
theorem dX3_instruction_53 : decode cX3_instruction 53 = .ok (.getfield 19, 3) := by decide +kernel
theorem dX3_instruction_56 : decode cX3_instruction 56 = .ok (.getfield 109, 3) := by decide +kernel
theorem dX3_instruction_59 : decode cX3_instruction 59 = .ok (.iload_n 1, 1) := by decide +kernel
theorem dX3_instruction_60 : decode cX3_instruction 60 = .ok (.iaload, 1) := by decide +kernel
theorem dX3_instruction_61 : decode cX3_instruction 61 = .ok (.ireturn, 1) := by decide +kernel
theorem dX3_instruction_62 : decode cX3_instruction 62 = .ok (.new 112, 3) := by decide +kernel
theorem dX3_instruction_65 : decode cX3_instruction 65 = .ok (.dup, 1) := by decide +kernel
theorem dX3_instruction_66 : decode cX3_instruction 66 = .ok (.ldc 114, 2) := by decide +kernel
theorem dX3_instruction_68 : decode cX3_instruction 68 = .ok (.invokespecial 116, 3) := by decide +kernel
theorem dX3_instruction_71 : decode cX3_instruction 71 = .ok (.athrow, 1) := by decide +kernel
set_option maxRecDepth 20000 in
theorem ggX3_addEntry_X3_requireKind : GoodIn wsX3_addEntry wsX3_requireKind := goodIn_ca (goodIn_r _ [10, 11, 12, 13, 14, 15, 16, 17, 18, 35, 36, 37, 38, 39, 40, 41, 42, 43, 44, 45, 46, 47, 48, 49, 50, 51, 52] (by decide +kernel) (by decide +kernel)) (goodIn_sub (fun _ h => List.mem_cons_of_mem _ (List.mem_append_right _ h)) (by decide +kernel))
set_option maxRecDepth 20000 in
theorem gX3_addEntry_X3_requireKind : GoodIn wsX3_addEntry (wsV RX3 57 RX3 yX3_requireKind wsX3_requireKind) := goodIn_app (goodIn_of _ (by decide +kernel)) ggX3_addEntry_X3_requireKind
set_option maxRecDepth 20000 in
theorem ggX3_addEntry_X3_requireTarget : GoodIn wsX3_addEntry wsX3_requireTarget := goodIn_ca (goodIn_r _ [22, 1, 2] (by decide +kernel) (by decide +kernel)) (goodIn_sub (fun _ h => List.mem_cons_of_mem _ (List.mem_append_left _ (List.mem_append_left _ (List.mem_append_right _ h)))) (by decide +kernel))
set_option maxRecDepth 20000 in
theorem gX3_addEntry_X3_requireTarget : GoodIn wsX3_addEntry (wsV RX3 96 RX3 yX3_requireTarget wsX3_requireTarget) := goodIn_app (goodIn_of _ (by decide +kernel)) ggX3_addEntry_X3_requireTarget
set_option maxRecDepth 20000 in
theorem ggX3_addEntry_X2_isFull : GoodIn wsX3_addEntry wsX2_isFull := goodIn_r _ [26, 27, 53, 54, 55, 56, 57] (by decide +kernel) (by decide +kernel)
set_option maxRecDepth 20000 in
theorem gX3_addEntry_X2_isFull_n122 : GoodIn wsX3_addEntry (wsX2_isFull) := ggX3_addEntry_X2_isFull
set_option maxRecDepth 20000 in
theorem ggX3_addEntry_X2_append : GoodIn wsX3_addEntry wsX2_append := goodIn_r _ [30, 27, 31, 32, 33, 34, 53, 54, 55, 56, 57] (by decide +kernel) (by decide +kernel)
set_option maxRecDepth 20000 in
theorem gX3_addEntry_X2_append_n125 : GoodIn wsX3_addEntry (wsX2_append) := ggX3_addEntry_X2_append
theorem dX3_addEntry_0 : decode cX3_addEntry 0 = .ok (.aload_n 0, 1) := by decide +kernel
theorem dX3_addEntry_1 : decode cX3_addEntry 1 = .ok (.iload_n 3, 1) := by decide +kernel
theorem dX3_addEntry_2 : decode cX3_addEntry 2 = .ok (.invokevirtual 57, 3) := by decide +kernel
theorem dX3_addEntry_5 : decode cX3_addEntry 5 = .ok (.iload_n 1, 1) := by decide +kernel
theorem dX3_addEntry_6 : decode cX3_addEntry 6 = .ok (.ifCond .lt 14, 3) := by decide +kernel
theorem dX3_addEntry_9 : decode cX3_addEntry 9 = .ok (.iload_n 2, 1) := by decide +kernel
theorem dX3_addEntry_10 : decode cX3_addEntry 10 = .ok (.bipush 48, 2) := by decide +kernel
theorem dX3_addEntry_12 : decode cX3_addEntry 12 = .ok (.if_icmp .gt 8, 3) := by decide +kernel
theorem dX3_addEntry_15 : decode cX3_addEntry 15 = .ok (.iload_n 1, 1) := by decide +kernel
theorem dX3_addEntry_16 : decode cX3_addEntry 16 = .ok (.iload_n 2, 1) := by decide +kernel
theorem dX3_addEntry_17 : decode cX3_addEntry 17 = .ok (.if_icmp .lt 13, 3) := by decide +kernel
theorem dX3_addEntry_20 : decode cX3_addEntry 20 = .ok (.new 117, 3) := by decide +kernel
theorem dX3_addEntry_23 : decode cX3_addEntry 23 = .ok (.dup, 1) := by decide +kernel
theorem dX3_addEntry_24 : decode cX3_addEntry 24 = .ok (.ldc 119, 2) := by decide +kernel
theorem dX3_addEntry_26 : decode cX3_addEntry 26 = .ok (.invokespecial 121, 3) := by decide +kernel
theorem dX3_addEntry_29 : decode cX3_addEntry 29 = .ok (.athrow, 1) := by decide +kernel
theorem dX3_addEntry_30 : decode cX3_addEntry 30 = .ok (.aload_n 0, 1) := by decide +kernel
theorem dX3_addEntry_31 : decode cX3_addEntry 31 = .ok (.iload 4, 2) := by decide +kernel
theorem dX3_addEntry_33 : decode cX3_addEntry 33 = .ok (.invokevirtual 96, 3) := by decide +kernel
theorem dX3_addEntry_36 : decode cX3_addEntry 36 = .ok (.aload_n 0, 1) := by decide +kernel
theorem dX3_addEntry_37 : decode cX3_addEntry 37 = .ok (.getfield 26, 3) := by decide +kernel
theorem dX3_addEntry_40 : decode cX3_addEntry 40 = .ok (.invokevirtual 122, 3) := by decide +kernel
theorem dX3_addEntry_43 : decode cX3_addEntry 43 = .ok (.ifCond .eq 13, 3) := by decide +kernel
theorem dX3_addEntry_46 : decode cX3_addEntry 46 = .ok (.new 65, 3) := by decide +kernel
theorem dX3_addEntry_49 : decode cX3_addEntry 49 = .ok (.dup, 1) := by decide +kernel
theorem dX3_addEntry_50 : decode cX3_addEntry 50 = .ok (.ldc 123, 2) := by decide +kernel
theorem dX3_addEntry_52 : decode cX3_addEntry 52 = .ok (.invokespecial 69, 3) := by decide +kernel
theorem dX3_addEntry_55 : decode cX3_addEntry 55 = .ok (.athrow, 1) := by decide +kernel
theorem dX3_addEntry_56 : decode cX3_addEntry 56 = .ok (.aload_n 0, 1) := by decide +kernel
theorem dX3_addEntry_57 : decode cX3_addEntry 57 = .ok (.getfield 26, 3) := by decide +kernel
theorem dX3_addEntry_60 : decode cX3_addEntry 60 = .ok (.iload_n 1, 1) := by decide +kernel
theorem dX3_addEntry_61 : decode cX3_addEntry 61 = .ok (.iload_n 2, 1) := by decide +kernel
theorem dX3_addEntry_62 : decode cX3_addEntry 62 = .ok (.iload_n 3, 1) := by decide +kernel
theorem dX3_addEntry_63 : decode cX3_addEntry 63 = .ok (.iload 4, 2) := by decide +kernel
theorem dX3_addEntry_65 : decode cX3_addEntry 65 = .ok (.invokevirtual 125, 3) := by decide +kernel
theorem dX3_addEntry_68 : decode cX3_addEntry 68 = .ok (.ireturn, 1) := by decide +kernel
set_option maxRecDepth 20000 in
theorem ggX3_removeEntry_X3_requireEntry : GoodIn wsX3_removeEntry wsX3_requireEntry := goodIn_ca (goodIn_r _ [6, 7, 8, 1, 9, 10, 11, 12, 13, 25, 26, 27, 28, 29, 30, 31, 32, 33, 34, 35, 36, 37, 38, 39, 40, 41, 42, 43, 44] (by decide +kernel) (by decide +kernel)) (goodIn_sub (fun _ h => List.mem_cons_of_mem _ (List.mem_append_right _ h)) (by decide +kernel))
set_option maxRecDepth 20000 in
theorem gX3_removeEntry_X3_requireEntry : GoodIn wsX3_removeEntry (wsV RX3 128 RX3 yX3_requireEntry wsX3_requireEntry) := goodIn_app (goodIn_of _ (by decide +kernel)) ggX3_removeEntry_X3_requireEntry
set_option maxRecDepth 20000 in
theorem ggX3_removeEntry_X2_delete : GoodIn wsX3_removeEntry wsX2_delete := goodIn_r _ [16, 13, 17, 18, 19, 10, 20, 21, 22, 23, 24, 40, 41, 42, 43, 44] (by decide +kernel) (by decide +kernel)
set_option maxRecDepth 20000 in
theorem gX3_removeEntry_X2_delete_n131 : GoodIn wsX3_removeEntry (wsX2_delete) := ggX3_removeEntry_X2_delete
theorem dX3_removeEntry_0 : decode cX3_removeEntry 0 = .ok (.aload_n 0, 1) := by decide +kernel
theorem dX3_removeEntry_1 : decode cX3_removeEntry 1 = .ok (.iload_n 1, 1) := by decide +kernel
theorem dX3_removeEntry_2 : decode cX3_removeEntry 2 = .ok (.invokevirtual 128, 3) := by decide +kernel
theorem dX3_removeEntry_5 : decode cX3_removeEntry 5 = .ok (.aload_n 0, 1) := by decide +kernel
theorem dX3_removeEntry_6 : decode cX3_removeEntry 6 = .ok (.getfield 26, 3) := by decide +kernel
theorem dX3_removeEntry_9 : decode cX3_removeEntry 9 = .ok (.iload_n 1, 1) := by decide +kernel
theorem dX3_removeEntry_10 : decode cX3_removeEntry 10 = .ok (.invokevirtual 131, 3) := by decide +kernel
theorem dX3_removeEntry_13 : decode cX3_removeEntry 13 = .ok (.aload_n 0, 1) := by decide +kernel
theorem dX3_removeEntry_14 : decode cX3_removeEntry 14 = .ok (.getfield 26, 3) := by decide +kernel
theorem dX3_removeEntry_17 : decode cX3_removeEntry 17 = .ok (.getfield 134, 3) := by decide +kernel
theorem dX3_removeEntry_20 : decode cX3_removeEntry 20 = .ok (.ireturn, 1) := by decide +kernel
theorem dX3_entryCount_0 : decode cX3_entryCount 0 = .ok (.aload_n 0, 1) := by decide +kernel
theorem dX3_entryCount_1 : decode cX3_entryCount 1 = .ok (.getfield 26, 3) := by decide +kernel
theorem dX3_entryCount_4 : decode cX3_entryCount 4 = .ok (.getfield 134, 3) := by decide +kernel
theorem dX3_entryCount_7 : decode cX3_entryCount 7 = .ok (.ireturn, 1) := by decide +kernel
set_option maxRecDepth 20000 in
theorem ggX3_entry_X3_requireEntry : GoodIn wsX3_entry wsX3_requireEntry := goodIn_ca (goodIn_r _ [8, 1, 2, 3, 9, 10, 11, 12, 13, 14, 15, 16, 17, 18, 19, 20, 21, 22, 23, 24, 25, 26, 27, 28, 29, 30, 31, 32, 33] (by decide +kernel) (by decide +kernel)) (goodIn_sub (fun _ h => List.mem_cons_of_mem _ (List.mem_append_right _ h)) (by decide +kernel))
set_option maxRecDepth 20000 in
theorem gX3_entry_X3_requireEntry : GoodIn wsX3_entry (wsV RX3 128 RX3 yX3_requireEntry wsX3_requireEntry) := goodIn_app (goodIn_of _ (by decide +kernel)) ggX3_entry_X3_requireEntry
theorem dX3_entry_0 : decode cX3_entry 0 = .ok (.aload_n 0, 1) := by decide +kernel
theorem dX3_entry_1 : decode cX3_entry 1 = .ok (.iload_n 1, 1) := by decide +kernel
theorem dX3_entry_2 : decode cX3_entry 2 = .ok (.invokevirtual 128, 3) := by decide +kernel
theorem dX3_entry_5 : decode cX3_entry 5 = .ok (.iload_n 2, 1) := by decide +kernel
theorem dX3_entry_6 : decode cX3_entry 6 = .ok (.tableswitch 70 0 3 #[30, 40, 50, 60], 30) := by decide +kernel
theorem dX3_entry_36 : decode cX3_entry 36 = .ok (.aload_n 0, 1) := by decide +kernel
theorem dX3_entry_37 : decode cX3_entry 37 = .ok (.getfield 26, 3) := by decide +kernel
theorem dX3_entry_40 : decode cX3_entry 40 = .ok (.getfield 135, 3) := by decide +kernel
theorem dX3_entry_43 : decode cX3_entry 43 = .ok (.iload_n 1, 1) := by decide +kernel
theorem dX3_entry_44 : decode cX3_entry 44 = .ok (.iaload, 1) := by decide +kernel
theorem dX3_entry_45 : decode cX3_entry 45 = .ok (.ireturn, 1) := by decide +kernel
theorem dX3_entry_46 : decode cX3_entry 46 = .ok (.aload_n 0, 1) := by decide +kernel
theorem dX3_entry_47 : decode cX3_entry 47 = .ok (.getfield 26, 3) := by decide +kernel
theorem dX3_entry_50 : decode cX3_entry 50 = .ok (.getfield 138, 3) := by decide +kernel
theorem dX3_entry_53 : decode cX3_entry 53 = .ok (.iload_n 1, 1) := by decide +kernel
theorem dX3_entry_54 : decode cX3_entry 54 = .ok (.iaload, 1) := by decide +kernel
theorem dX3_entry_55 : decode cX3_entry 55 = .ok (.ireturn, 1) := by decide +kernel
theorem dX3_entry_56 : decode cX3_entry 56 = .ok (.aload_n 0, 1) := by decide +kernel
theorem dX3_entry_57 : decode cX3_entry 57 = .ok (.getfield 26, 3) := by decide +kernel
theorem dX3_entry_60 : decode cX3_entry 60 = .ok (.getfield 141, 3) := by decide +kernel
theorem dX3_entry_63 : decode cX3_entry 63 = .ok (.iload_n 1, 1) := by decide +kernel
theorem dX3_entry_64 : decode cX3_entry 64 = .ok (.iaload, 1) := by decide +kernel
theorem dX3_entry_65 : decode cX3_entry 65 = .ok (.ireturn, 1) := by decide +kernel
theorem dX3_entry_66 : decode cX3_entry 66 = .ok (.aload_n 0, 1) := by decide +kernel
theorem dX3_entry_67 : decode cX3_entry 67 = .ok (.getfield 26, 3) := by decide +kernel
theorem dX3_entry_70 : decode cX3_entry 70 = .ok (.getfield 143, 3) := by decide +kernel
theorem dX3_entry_73 : decode cX3_entry 73 = .ok (.iload_n 1, 1) := by decide +kernel
theorem dX3_entry_74 : decode cX3_entry 74 = .ok (.iaload, 1) := by decide +kernel
theorem dX3_entry_75 : decode cX3_entry 75 = .ok (.ireturn, 1) := by decide +kernel
theorem dX3_entry_76 : decode cX3_entry 76 = .ok (.new 112, 3) := by decide +kernel
theorem dX3_entry_79 : decode cX3_entry 79 = .ok (.dup, 1) := by decide +kernel
theorem dX3_entry_80 : decode cX3_entry 80 = .ok (.ldc 144, 2) := by decide +kernel
theorem dX3_entry_82 : decode cX3_entry 82 = .ok (.invokespecial 116, 3) := by decide +kernel
theorem dX3_entry_85 : decode cX3_entry 85 = .ok (.athrow, 1) := by decide +kernel
set_option maxRecDepth 20000 in
theorem ggX3_taker_X3_requireInstruction : GoodIn wsX3_taker wsX3_requireInstruction := goodIn_ca (goodIn_r _ [7, 8, 9, 10, 11, 12, 13, 14, 15, 33, 34, 35, 36, 37, 38, 39, 40, 41, 42, 43, 44, 45, 46, 47, 48, 49, 50, 51] (by decide +kernel) (by decide +kernel)) (goodIn_sub (fun _ h => List.mem_cons_of_mem _ (List.mem_append_right _ h)) (by decide +kernel))
set_option maxRecDepth 20000 in
theorem gX3_taker_X3_requireInstruction : GoodIn wsX3_taker (wsV RX3 100 RX3 yX3_requireInstruction wsX3_requireInstruction) := goodIn_app (goodIn_of _ (by decide +kernel)) ggX3_taker_X3_requireInstruction
set_option maxRecDepth 20000 in
theorem ggX3_taker_X3_requireKind : GoodIn wsX3_taker wsX3_requireKind := goodIn_ca (goodIn_r _ [19, 8, 9, 2, 20, 21, 22, 23, 24, 33, 34, 35, 36, 37, 38, 39, 40, 41, 42, 43, 44, 45, 46, 47, 52, 53, 54] (by decide +kernel) (by decide +kernel)) (goodIn_sub (fun _ h => List.mem_cons_of_mem _ (List.mem_append_right _ h)) (by decide +kernel))
set_option maxRecDepth 20000 in
theorem gX3_taker_X3_requireKind : GoodIn wsX3_taker (wsV RX3 57 RX3 yX3_requireKind wsX3_requireKind) := goodIn_app (goodIn_of _ (by decide +kernel)) ggX3_taker_X3_requireKind
set_option maxRecDepth 20000 in
theorem ggX3_taker_X2_firstTaker : GoodIn wsX3_taker wsX2_firstTaker := goodIn_r _ [28, 29, 30, 31, 32, 55, 56, 57, 58, 59, 52, 53, 54] (by decide +kernel) (by decide +kernel)
set_option maxRecDepth 20000 in
theorem gX3_taker_X2_firstTaker_n146 : GoodIn wsX3_taker (wsX2_firstTaker) := ggX3_taker_X2_firstTaker
theorem dX3_taker_0 : decode cX3_taker 0 = .ok (.aload_n 0, 1) := by decide +kernel
theorem dX3_taker_1 : decode cX3_taker 1 = .ok (.iload_n 1, 1) := by decide +kernel
theorem dX3_taker_2 : decode cX3_taker 2 = .ok (.invokevirtual 100, 3) := by decide +kernel
theorem dX3_taker_5 : decode cX3_taker 5 = .ok (.aload_n 0, 1) := by decide +kernel
theorem dX3_taker_6 : decode cX3_taker 6 = .ok (.iload_n 2, 1) := by decide +kernel
theorem dX3_taker_7 : decode cX3_taker 7 = .ok (.invokevirtual 57, 3) := by decide +kernel
theorem dX3_taker_10 : decode cX3_taker 10 = .ok (.aload_n 0, 1) := by decide +kernel
theorem dX3_taker_11 : decode cX3_taker 11 = .ok (.getfield 26, 3) := by decide +kernel
theorem dX3_taker_14 : decode cX3_taker 14 = .ok (.aload_n 0, 1) := by decide +kernel
theorem dX3_taker_15 : decode cX3_taker 15 = .ok (.getfield 12, 3) := by decide +kernel
theorem dX3_taker_18 : decode cX3_taker 18 = .ok (.iload_n 1, 1) := by decide +kernel
theorem dX3_taker_19 : decode cX3_taker 19 = .ok (.iload_n 2, 1) := by decide +kernel
theorem dX3_taker_20 : decode cX3_taker 20 = .ok (.invokevirtual 146, 3) := by decide +kernel
theorem dX3_taker_23 : decode cX3_taker 23 = .ok (.ireturn, 1) := by decide +kernel
set_option maxRecDepth 20000 in
theorem ggX3_isReached_X3_requireInstruction : GoodIn wsX3_isReached wsX3_requireInstruction := goodIn_ca (goodIn_r _ [6, 7, 8, 9, 10, 11, 12, 13, 14, 48, 49, 50, 51, 52, 53, 54, 55, 56, 57, 58, 59, 60, 61, 62, 63, 64, 65, 66] (by decide +kernel) (by decide +kernel)) (goodIn_sub (fun _ h => List.mem_cons_of_mem _ (List.mem_append_right _ h)) (by decide +kernel))
set_option maxRecDepth 20000 in
theorem gX3_isReached_X3_requireInstruction : GoodIn wsX3_isReached (wsV RX3 100 RX3 yX3_requireInstruction wsX3_requireInstruction) := goodIn_app (goodIn_of _ (by decide +kernel)) ggX3_isReached_X3_requireInstruction
set_option maxRecDepth 20000 in
theorem ggX3_isReached_X3_findReached : GoodIn wsX3_isReached wsX3_findReached := goodIn_r _ [18, 1, 19, 20, 21, 22, 23, 5, 24, 9, 10, 11, 12, 13, 14, 25, 26, 27, 28, 29, 30, 31, 32, 33, 34, 35, 36, 37, 38, 39, 40, 41, 42, 43, 44, 45, 46, 47, 48, 49, 50, 51, 52, 53, 54, 55, 56, 57, 58, 59, 60, 61, 62, 63, 64, 65, 66, 67, 68, 69, 70, 71, 72, 73, 74] (by decide +kernel) (by decide +kernel)
set_option maxRecDepth 20000 in
theorem gX3_isReached_X3_findReached : GoodIn wsX3_isReached (wsV RX3 150 RX3 yX3_findReached wsX3_findReached) := goodIn_app (goodIn_of _ (by decide +kernel)) ggX3_isReached_X3_findReached
theorem dX3_isReached_0 : decode cX3_isReached 0 = .ok (.aload_n 0, 1) := by decide +kernel
theorem dX3_isReached_1 : decode cX3_isReached 1 = .ok (.iload_n 1, 1) := by decide +kernel
theorem dX3_isReached_2 : decode cX3_isReached 2 = .ok (.invokevirtual 100, 3) := by decide +kernel
theorem dX3_isReached_5 : decode cX3_isReached 5 = .ok (.aload_n 0, 1) := by decide +kernel
theorem dX3_isReached_6 : decode cX3_isReached 6 = .ok (.invokevirtual 150, 3) := by decide +kernel
theorem dX3_isReached_9 : decode cX3_isReached 9 = .ok (.aload_n 0, 1) := by decide +kernel
theorem dX3_isReached_10 : decode cX3_isReached 10 = .ok (.getfield 33, 3) := by decide +kernel
theorem dX3_isReached_13 : decode cX3_isReached 13 = .ok (.iload_n 1, 1) := by decide +kernel
theorem dX3_isReached_14 : decode cX3_isReached 14 = .ok (.baload, 1) := by decide +kernel
theorem dX3_isReached_15 : decode cX3_isReached 15 = .ok (.ireturn, 1) := by decide +kernel
set_option maxRecDepth 20000 in
theorem ggX3_isUsed_X3_requireEntry : GoodIn wsX3_isUsed wsX3_requireEntry := goodIn_ca (goodIn_r _ [5, 6, 7, 8, 9, 10, 11, 12, 13, 69, 70, 71, 72, 73, 74, 75, 76, 77, 78, 79, 80, 81, 82, 83, 84, 85, 86, 87, 88] (by decide +kernel) (by decide +kernel)) (goodIn_sub (fun _ h => List.mem_cons_of_mem _ (List.mem_append_right _ h)) (by decide +kernel))
set_option maxRecDepth 20000 in
theorem gX3_isUsed_X3_requireEntry : GoodIn wsX3_isUsed (wsV RX3 128 RX3 yX3_requireEntry wsX3_requireEntry) := goodIn_app (goodIn_of _ (by decide +kernel)) ggX3_isUsed_X3_requireEntry
set_option maxRecDepth 20000 in
theorem ggX3_isUsed_X3_findUses : GoodIn wsX3_isUsed wsX3_findUses := goodIn_r _ [17, 18, 19, 20, 8, 21, 22, 23, 4, 24, 25, 26, 27, 28, 29, 30, 31, 32, 33, 34, 35, 36, 37, 38, 39, 40, 41, 42, 43, 44, 45, 10, 46, 47, 48, 49, 50, 51, 52, 13, 53, 54, 55, 56, 57, 58, 59, 60, 61, 62, 63, 64, 65, 66, 67, 68, 69, 70, 71, 72, 73, 74, 75, 76, 77, 78, 79, 80, 81, 82, 83, 89, 90, 91, 92, 93, 94, 95, 84, 85, 86, 87, 88] (by decide +kernel) (by decide +kernel)
set_option maxRecDepth 20000 in
theorem gX3_isUsed_X3_findUses : GoodIn wsX3_isUsed (wsV RX3 153 RX3 yX3_findUses wsX3_findUses) := goodIn_app (goodIn_of _ (by decide +kernel)) ggX3_isUsed_X3_findUses
set_option maxRecDepth 20000 in
theorem ggX3_isUsed_X3_hasUse : GoodIn wsX3_isUsed wsX3_hasUse := goodIn_r _ [68, 18, 69, 70, 71, 72, 73, 74, 75, 76, 77, 78, 79, 80, 81, 82, 83] (by decide +kernel) (by decide +kernel)
set_option maxRecDepth 20000 in
theorem gX3_isUsed_X3_hasUse : GoodIn wsX3_isUsed (wsV RX3 156 RX3 yX3_hasUse wsX3_hasUse) := goodIn_app (goodIn_of _ (by decide +kernel)) ggX3_isUsed_X3_hasUse
theorem dX3_isUsed_0 : decode cX3_isUsed 0 = .ok (.aload_n 0, 1) := by decide +kernel
theorem dX3_isUsed_1 : decode cX3_isUsed 1 = .ok (.iload_n 1, 1) := by decide +kernel
theorem dX3_isUsed_2 : decode cX3_isUsed 2 = .ok (.invokevirtual 128, 3) := by decide +kernel
theorem dX3_isUsed_5 : decode cX3_isUsed 5 = .ok (.aload_n 0, 1) := by decide +kernel
theorem dX3_isUsed_6 : decode cX3_isUsed 6 = .ok (.invokevirtual 153, 3) := by decide +kernel
theorem dX3_isUsed_9 : decode cX3_isUsed 9 = .ok (.aload_n 0, 1) := by decide +kernel
theorem dX3_isUsed_10 : decode cX3_isUsed 10 = .ok (.iload_n 1, 1) := by decide +kernel
theorem dX3_isUsed_11 : decode cX3_isUsed 11 = .ok (.invokevirtual 156, 3) := by decide +kernel
theorem dX3_isUsed_14 : decode cX3_isUsed 14 = .ok (.ireturn, 1) := by decide +kernel
set_option maxRecDepth 20000 in
theorem ggX3_leaving_X3_findReached : GoodIn wsX3_leaving wsX3_findReached := goodIn_r _ [8, 9, 10, 11, 12, 13, 14, 7, 15, 1, 16, 17, 18, 19, 20, 21, 22, 23, 24, 2, 3, 25, 26, 27, 28, 29, 30, 31, 32, 33, 34, 35, 36, 37, 38, 39, 40, 41, 46, 47, 48, 49, 50, 51, 52, 53, 54, 55, 56, 57, 58, 59, 60, 61, 62, 63, 64, 65, 66, 67, 68, 69, 70, 71, 72] (by decide +kernel) (by decide +kernel)
set_option maxRecDepth 20000 in
theorem gX3_leaving_X3_findReached : GoodIn wsX3_leaving (wsV RX3 150 RX3 yX3_findReached wsX3_findReached) := goodIn_app (goodIn_of _ (by decide +kernel)) ggX3_leaving_X3_findReached
set_option maxRecDepth 20000 in
theorem ggX3_leaving_X3_isThrown : GoodIn wsX3_leaving wsX3_isThrown := goodIn_r _ [45, 9, 1, 25, 17, 26, 27, 28, 46, 47, 48, 49, 50, 51, 52, 53, 54, 55, 56, 57, 58, 59, 60, 61, 62, 63, 64] (by decide +kernel) (by decide +kernel)
set_option maxRecDepth 20000 in
theorem gX3_leaving_X3_isThrown : GoodIn wsX3_leaving (wsV RX3 160 RX3 yX3_isThrown wsX3_isThrown) := goodIn_app (goodIn_of _ (by decide +kernel)) ggX3_leaving_X3_isThrown
set_option maxRecDepth 20000 in
theorem ggX3_leaving_X2_firstTaker : GoodIn wsX3_leaving wsX2_firstTaker := goodIn_r _ [37, 38, 39, 40, 41, 68, 69, 70, 71, 72, 65, 66, 67] (by decide +kernel) (by decide +kernel)
set_option maxRecDepth 20000 in
theorem gX3_leaving_X2_firstTaker_n146 : GoodIn wsX3_leaving (wsX2_firstTaker) := ggX3_leaving_X2_firstTaker
theorem dX3_leaving_0 : decode cX3_leaving 0 = .ok (.aload_n 0, 1) := by decide +kernel
theorem dX3_leaving_1 : decode cX3_leaving 1 = .ok (.invokevirtual 150, 3) := by decide +kernel
theorem dX3_leaving_4 : decode cX3_leaving 4 = .ok (.iconst 0, 1) := by decide +kernel
theorem dX3_leaving_5 : decode cX3_leaving 5 = .ok (.istore_n 1, 1) := by decide +kernel
theorem dX3_leaving_6 : decode cX3_leaving 6 = .ok (.iconst 0, 1) := by decide +kernel
theorem dX3_leaving_7 : decode cX3_leaving 7 = .ok (.istore_n 2, 1) := by decide +kernel
theorem dX3_leaving_8 : decode cX3_leaving 8 = .ok (.iload_n 2, 1) := by decide +kernel
theorem dX3_leaving_9 : decode cX3_leaving 9 = .ok (.aload_n 0, 1) := by decide +kernel
theorem dX3_leaving_10 : decode cX3_leaving 10 = .ok (.getfield 19, 3) := by decide +kernel
theorem dX3_leaving_13 : decode cX3_leaving 13 = .ok (.getfield 99, 3) := by decide +kernel
theorem dX3_leaving_16 : decode cX3_leaving 16 = .ok (.if_icmp .ge 60, 3) := by decide +kernel
theorem dX3_leaving_19 : decode cX3_leaving 19 = .ok (.iconst 0, 1) := by decide +kernel
theorem dX3_leaving_20 : decode cX3_leaving 20 = .ok (.istore_n 3, 1) := by decide +kernel
theorem dX3_leaving_21 : decode cX3_leaving 21 = .ok (.iload_n 3, 1) := by decide +kernel
theorem dX3_leaving_22 : decode cX3_leaving 22 = .ok (.aload_n 0, 1) := by decide +kernel
theorem dX3_leaving_23 : decode cX3_leaving 23 = .ok (.getfield 12, 3) := by decide +kernel
theorem dX3_leaving_26 : decode cX3_leaving 26 = .ok (.getfield 76, 3) := by decide +kernel
theorem dX3_leaving_29 : decode cX3_leaving 29 = .ok (.if_icmp .ge 41, 3) := by decide +kernel
theorem dX3_leaving_32 : decode cX3_leaving 32 = .ok (.aload_n 0, 1) := by decide +kernel
theorem dX3_leaving_33 : decode cX3_leaving 33 = .ok (.iload_n 2, 1) := by decide +kernel
theorem dX3_leaving_34 : decode cX3_leaving 34 = .ok (.iload_n 3, 1) := by decide +kernel
theorem dX3_leaving_35 : decode cX3_leaving 35 = .ok (.invokevirtual 160, 3) := by decide +kernel
theorem dX3_leaving_38 : decode cX3_leaving 38 = .ok (.ifCond .eq 26, 3) := by decide +kernel
theorem dX3_leaving_41 : decode cX3_leaving 41 = .ok (.aload_n 0, 1) := by decide +kernel
theorem dX3_leaving_42 : decode cX3_leaving 42 = .ok (.getfield 26, 3) := by decide +kernel
theorem dX3_leaving_45 : decode cX3_leaving 45 = .ok (.aload_n 0, 1) := by decide +kernel
theorem dX3_leaving_46 : decode cX3_leaving 46 = .ok (.getfield 12, 3) := by decide +kernel
theorem dX3_leaving_49 : decode cX3_leaving 49 = .ok (.iload_n 2, 1) := by decide +kernel
theorem dX3_leaving_50 : decode cX3_leaving 50 = .ok (.iload_n 3, 1) := by decide +kernel
theorem dX3_leaving_51 : decode cX3_leaving 51 = .ok (.invokevirtual 146, 3) := by decide +kernel
theorem dX3_leaving_54 : decode cX3_leaving 54 = .ok (.iconst (-1), 1) := by decide +kernel
theorem dX3_leaving_55 : decode cX3_leaving 55 = .ok (.if_icmp .ne 9, 3) := by decide +kernel
theorem dX3_leaving_58 : decode cX3_leaving 58 = .ok (.iload_n 1, 1) := by decide +kernel
theorem dX3_leaving_59 : decode cX3_leaving 59 = .ok (.iconst 1, 1) := by decide +kernel
theorem dX3_leaving_60 : decode cX3_leaving 60 = .ok (.iload_n 3, 1) := by decide +kernel
theorem dX3_leaving_61 : decode cX3_leaving 61 = .ok (.ishl, 1) := by decide +kernel
theorem dX3_leaving_62 : decode cX3_leaving 62 = .ok (.ior, 1) := by decide +kernel
theorem dX3_leaving_63 : decode cX3_leaving 63 = .ok (.istore_n 1, 1) := by decide +kernel
theorem dX3_leaving_64 : decode cX3_leaving 64 = .ok (.iinc 3 1, 3) := by decide +kernel
theorem dX3_leaving_67 : decode cX3_leaving 67 = .ok (.goto (-46), 3) := by decide +kernel
theorem dX3_leaving_70 : decode cX3_leaving 70 = .ok (.iinc 2 1, 3) := by decide +kernel
theorem dX3_leaving_73 : decode cX3_leaving 73 = .ok (.goto (-65), 3) := by decide +kernel
theorem dX3_leaving_76 : decode cX3_leaving 76 = .ok (.iload_n 1, 1) := by decide +kernel
theorem dX3_leaving_77 : decode cX3_leaving 77 = .ok (.ireturn, 1) := by decide +kernel
set_option maxRecDepth 20000 in
theorem ggX3_share_X3_findReached : GoodIn wsX3_share wsX3_findReached := goodIn_r _ [8, 9, 10, 11, 12, 13, 14, 7, 15, 1, 16, 17, 18, 19, 20, 21, 22, 23, 24, 2, 3, 25, 26, 27, 28, 29, 30, 31, 32, 33, 34, 35, 36, 37, 38, 39, 40, 41, 46, 47, 48, 49, 50, 51, 52, 53, 54, 55, 56, 57, 58, 59, 60, 61, 62, 63, 64, 65, 66, 67, 68, 69, 70, 71, 72] (by decide +kernel) (by decide +kernel)
set_option maxRecDepth 20000 in
theorem gX3_share_X3_findReached : GoodIn wsX3_share (wsV RX3 150 RX3 yX3_findReached wsX3_findReached) := goodIn_app (goodIn_of _ (by decide +kernel)) ggX3_share_X3_findReached
set_option maxRecDepth 20000 in
theorem ggX3_share_X3_isThrown : GoodIn wsX3_share wsX3_isThrown := goodIn_r _ [45, 9, 1, 25, 17, 26, 27, 28, 46, 47, 48, 49, 50, 51, 52, 53, 54, 55, 56, 57, 58, 59, 60, 61, 62, 63, 64] (by decide +kernel) (by decide +kernel)
set_option maxRecDepth 20000 in
theorem gX3_share_X3_isThrown : GoodIn wsX3_share (wsV RX3 160 RX3 yX3_isThrown wsX3_isThrown) := goodIn_app (goodIn_of _ (by decide +kernel)) ggX3_share_X3_isThrown
set_option maxRecDepth 20000 in
theorem ggX3_share_X2_firstTaker : GoodIn wsX3_share wsX2_firstTaker := goodIn_r _ [37, 38, 39, 40, 41, 68, 69, 70, 71, 72, 65, 66, 67] (by decide +kernel) (by decide +kernel)
set_option maxRecDepth 20000 in
theorem gX3_share_X2_firstTaker_n146 : GoodIn wsX3_share (wsX2_firstTaker) := ggX3_share_X2_firstTaker
theorem dX3_share_0 : decode cX3_share 0 = .ok (.aload_n 0, 1) := by decide +kernel
theorem dX3_share_1 : decode cX3_share 1 = .ok (.invokevirtual 150, 3) := by decide +kernel
theorem dX3_share_4 : decode cX3_share 4 = .ok (.iconst 0, 1) := by decide +kernel
theorem dX3_share_5 : decode cX3_share 5 = .ok (.istore_n 1, 1) := by decide +kernel
theorem dX3_share_6 : decode cX3_share 6 = .ok (.iconst 0, 1) := by decide +kernel
theorem dX3_share_7 : decode cX3_share 7 = .ok (.istore_n 2, 1) := by decide +kernel
theorem dX3_share_8 : decode cX3_share 8 = .ok (.iconst 0, 1) := by decide +kernel
theorem dX3_share_9 : decode cX3_share 9 = .ok (.istore_n 3, 1) := by decide +kernel
theorem dX3_share_10 : decode cX3_share 10 = .ok (.iload_n 3, 1) := by decide +kernel
theorem dX3_share_11 : decode cX3_share 11 = .ok (.aload_n 0, 1) := by decide +kernel
theorem dX3_share_12 : decode cX3_share 12 = .ok (.getfield 19, 3) := by decide +kernel
theorem dX3_share_15 : decode cX3_share 15 = .ok (.getfield 99, 3) := by decide +kernel
theorem dX3_share_18 : decode cX3_share 18 = .ok (.if_icmp .ge 69, 3) := by decide +kernel
theorem dX3_share_21 : decode cX3_share 21 = .ok (.iconst 0, 1) := by decide +kernel
theorem dX3_share_22 : decode cX3_share 22 = .ok (.istore 4, 2) := by decide +kernel
theorem dX3_share_24 : decode cX3_share 24 = .ok (.iload 4, 2) := by decide +kernel
theorem dX3_share_26 : decode cX3_share 26 = .ok (.aload_n 0, 1) := by decide +kernel
theorem dX3_share_27 : decode cX3_share 27 = .ok (.getfield 12, 3) := by decide +kernel
theorem dX3_share_30 : decode cX3_share 30 = .ok (.getfield 76, 3) := by decide +kernel
theorem dX3_share_33 : decode cX3_share 33 = .ok (.if_icmp .ge 48, 3) := by decide +kernel
theorem dX3_share_36 : decode cX3_share 36 = .ok (.aload_n 0, 1) := by decide +kernel
theorem dX3_share_37 : decode cX3_share 37 = .ok (.iload_n 3, 1) := by decide +kernel
theorem dX3_share_38 : decode cX3_share 38 = .ok (.iload 4, 2) := by decide +kernel
theorem dX3_share_40 : decode cX3_share 40 = .ok (.invokevirtual 160, 3) := by decide +kernel
theorem dX3_share_43 : decode cX3_share 43 = .ok (.ifCond .eq 32, 3) := by decide +kernel
theorem dX3_share_46 : decode cX3_share 46 = .ok (.iinc 1 1, 3) := by decide +kernel
theorem dX3_share_49 : decode cX3_share 49 = .ok (.iload_n 2, 1) := by decide +kernel
theorem dX3_share_50 : decode cX3_share 50 = .ok (.aload_n 0, 1) := by decide +kernel
theorem dX3_share_51 : decode cX3_share 51 = .ok (.getfield 26, 3) := by decide +kernel
theorem dX3_share_54 : decode cX3_share 54 = .ok (.aload_n 0, 1) := by decide +kernel
theorem dX3_share_55 : decode cX3_share 55 = .ok (.getfield 12, 3) := by decide +kernel
theorem dX3_share_58 : decode cX3_share 58 = .ok (.iload_n 3, 1) := by decide +kernel
theorem dX3_share_59 : decode cX3_share 59 = .ok (.iload 4, 2) := by decide +kernel
theorem dX3_share_61 : decode cX3_share 61 = .ok (.invokevirtual 146, 3) := by decide +kernel
theorem dX3_share_64 : decode cX3_share 64 = .ok (.iconst (-1), 1) := by decide +kernel
theorem dX3_share_65 : decode cX3_share 65 = .ok (.if_icmp .ne 7, 3) := by decide +kernel
theorem dX3_share_68 : decode cX3_share 68 = .ok (.iconst 0, 1) := by decide +kernel
theorem dX3_share_69 : decode cX3_share 69 = .ok (.goto 4, 3) := by decide +kernel
theorem dX3_share_72 : decode cX3_share 72 = .ok (.iconst 1, 1) := by decide +kernel
theorem dX3_share_73 : decode cX3_share 73 = .ok (.iadd, 1) := by decide +kernel
theorem dX3_share_74 : decode cX3_share 74 = .ok (.istore_n 2, 1) := by decide +kernel
theorem dX3_share_75 : decode cX3_share 75 = .ok (.iinc 4 1, 3) := by decide +kernel
theorem dX3_share_78 : decode cX3_share 78 = .ok (.goto (-54), 3) := by decide +kernel
theorem dX3_share_81 : decode cX3_share 81 = .ok (.iinc 3 1, 3) := by decide +kernel
theorem dX3_share_84 : decode cX3_share 84 = .ok (.goto (-74), 3) := by decide +kernel
theorem dX3_share_87 : decode cX3_share 87 = .ok (.iload_n 1, 1) := by decide +kernel
theorem dX3_share_88 : decode cX3_share 88 = .ok (.ifCond .ne 7, 3) := by decide +kernel
theorem dX3_share_91 : decode cX3_share 91 = .ok (.dconst 0, 1) := by decide +kernel
theorem dX3_share_92 : decode cX3_share 92 = .ok (.goto 8, 3) := by decide +kernel
theorem dX3_share_95 : decode cX3_share 95 = .ok (.iload_n 2, 1) := by decide +kernel
theorem dX3_share_96 : decode cX3_share 96 = .ok (.i2d, 1) := by decide +kernel
theorem dX3_share_97 : decode cX3_share 97 = .ok (.iload_n 1, 1) := by decide +kernel
theorem dX3_share_98 : decode cX3_share 98 = .ok (.i2d, 1) := by decide +kernel
theorem dX3_share_99 : decode cX3_share 99 = .ok (.ddiv, 1) := by decide +kernel
theorem dX3_share_100 : decode cX3_share 100 = .ok (.dreturn, 1) := by decide +kernel
set_option maxRecDepth 20000 in
theorem ggX3_parts_X3_goesLikeTheOneAhead : GoodIn wsX3_parts wsX3_goesLikeTheOneAhead := goodIn_r _ [6, 7, 8, 9, 10, 11, 12, 13, 14, 15, 16, 17, 18, 19, 20, 21, 22, 23, 24, 25, 26, 27, 28, 29, 30, 31, 32, 33, 34, 35, 36, 41, 42, 43, 44, 45, 46, 47, 48] (by decide +kernel) (by decide +kernel)
set_option maxRecDepth 20000 in
theorem gX3_parts_X3_goesLikeTheOneAhead : GoodIn wsX3_parts (wsV RX3 163 RX3 yX3_goesLikeTheOneAhead wsX3_goesLikeTheOneAhead) := goodIn_app (goodIn_of _ (by decide +kernel)) ggX3_parts_X3_goesLikeTheOneAhead
theorem dX3_parts_0 : decode cX3_parts 0 = .ok (.iconst 0, 1) := by decide +kernel
theorem dX3_parts_1 : decode cX3_parts 1 = .ok (.istore_n 1, 1) := by decide +kernel
theorem dX3_parts_2 : decode cX3_parts 2 = .ok (.iconst 0, 1) := by decide +kernel
theorem dX3_parts_3 : decode cX3_parts 3 = .ok (.istore_n 2, 1) := by decide +kernel
theorem dX3_parts_4 : decode cX3_parts 4 = .ok (.iload_n 2, 1) := by decide +kernel
theorem dX3_parts_5 : decode cX3_parts 5 = .ok (.aload_n 0, 1) := by decide +kernel
theorem dX3_parts_6 : decode cX3_parts 6 = .ok (.getfield 19, 3) := by decide +kernel
theorem dX3_parts_9 : decode cX3_parts 9 = .ok (.getfield 99, 3) := by decide +kernel
theorem dX3_parts_12 : decode cX3_parts 12 = .ok (.if_icmp .ge 24, 3) := by decide +kernel
theorem dX3_parts_15 : decode cX3_parts 15 = .ok (.iload_n 2, 1) := by decide +kernel
theorem dX3_parts_16 : decode cX3_parts 16 = .ok (.ifCond .eq 11, 3) := by decide +kernel
theorem dX3_parts_19 : decode cX3_parts 19 = .ok (.aload_n 0, 1) := by decide +kernel
theorem dX3_parts_20 : decode cX3_parts 20 = .ok (.iload_n 2, 1) := by decide +kernel
theorem dX3_parts_21 : decode cX3_parts 21 = .ok (.invokevirtual 163, 3) := by decide +kernel
theorem dX3_parts_24 : decode cX3_parts 24 = .ok (.ifCond .ne 6, 3) := by decide +kernel
theorem dX3_parts_27 : decode cX3_parts 27 = .ok (.iinc 1 1, 3) := by decide +kernel
theorem dX3_parts_30 : decode cX3_parts 30 = .ok (.iinc 2 1, 3) := by decide +kernel
theorem dX3_parts_33 : decode cX3_parts 33 = .ok (.goto (-29), 3) := by decide +kernel
theorem dX3_parts_36 : decode cX3_parts 36 = .ok (.iload_n 1, 1) := by decide +kernel
theorem dX3_parts_37 : decode cX3_parts 37 = .ok (.ireturn, 1) := by decide +kernel
set_option maxRecDepth 20000 in
theorem ggX3_drop_X3_findUses : GoodIn wsX3_drop wsX3_findUses := goodIn_r _ [6, 7, 8, 9, 1, 10, 11, 12, 5, 13, 14, 15, 16, 17, 18, 19, 20, 21, 22, 23, 24, 25, 26, 27, 28, 29, 30, 31, 32, 33, 34, 35, 36, 37, 38, 39, 40, 41, 42, 43, 44, 45, 46, 47, 48, 49, 50, 51, 52, 53, 54, 55, 56, 57, 58, 59, 67, 68, 69, 70, 71, 72, 73, 74, 75, 76, 77, 78, 79, 80, 81, 87, 88, 89, 90, 91, 92, 93, 82, 83, 84, 85, 86] (by decide +kernel) (by decide +kernel)
set_option maxRecDepth 20000 in
theorem gX3_drop_X3_findUses : GoodIn wsX3_drop (wsV RX3 153 RX3 yX3_findUses wsX3_findUses) := goodIn_app (goodIn_of _ (by decide +kernel)) ggX3_drop_X3_findUses
set_option maxRecDepth 20000 in
theorem ggX3_drop_X3_hasUse : GoodIn wsX3_drop wsX3_hasUse := goodIn_r _ [59, 7, 67, 68, 69, 70, 71, 72, 73, 74, 75, 76, 77, 78, 79, 80, 81] (by decide +kernel) (by decide +kernel)
set_option maxRecDepth 20000 in
theorem gX3_drop_X3_hasUse : GoodIn wsX3_drop (wsV RX3 156 RX3 yX3_hasUse wsX3_hasUse) := goodIn_app (goodIn_of _ (by decide +kernel)) ggX3_drop_X3_hasUse
set_option maxRecDepth 20000 in
theorem ggX3_drop_X2_delete : GoodIn wsX3_drop wsX2_delete := goodIn_r _ [62, 43, 63, 64, 65, 35, 66, 44, 45, 46, 38, 82, 83, 84, 85, 86] (by decide +kernel) (by decide +kernel)
set_option maxRecDepth 20000 in
theorem gX3_drop_X2_delete_n131 : GoodIn wsX3_drop (wsX2_delete) := ggX3_drop_X2_delete
theorem dX3_drop_0 : decode cX3_drop 0 = .ok (.aload_n 0, 1) := by decide +kernel
theorem dX3_drop_1 : decode cX3_drop 1 = .ok (.invokevirtual 153, 3) := by decide +kernel
theorem dX3_drop_4 : decode cX3_drop 4 = .ok (.aload_n 0, 1) := by decide +kernel
theorem dX3_drop_5 : decode cX3_drop 5 = .ok (.getfield 26, 3) := by decide +kernel
theorem dX3_drop_8 : decode cX3_drop 8 = .ok (.getfield 134, 3) := by decide +kernel
theorem dX3_drop_11 : decode cX3_drop 11 = .ok (.istore_n 1, 1) := by decide +kernel
theorem dX3_drop_12 : decode cX3_drop 12 = .ok (.iload_n 1, 1) := by decide +kernel
theorem dX3_drop_13 : decode cX3_drop 13 = .ok (.iconst 1, 1) := by decide +kernel
theorem dX3_drop_14 : decode cX3_drop 14 = .ok (.isub, 1) := by decide +kernel
theorem dX3_drop_15 : decode cX3_drop 15 = .ok (.istore_n 2, 1) := by decide +kernel
theorem dX3_drop_16 : decode cX3_drop 16 = .ok (.iload_n 2, 1) := by decide +kernel
theorem dX3_drop_17 : decode cX3_drop 17 = .ok (.ifCond .lt 25, 3) := by decide +kernel
theorem dX3_drop_20 : decode cX3_drop 20 = .ok (.aload_n 0, 1) := by decide +kernel
theorem dX3_drop_21 : decode cX3_drop 21 = .ok (.iload_n 2, 1) := by decide +kernel
theorem dX3_drop_22 : decode cX3_drop 22 = .ok (.invokevirtual 156, 3) := by decide +kernel
theorem dX3_drop_25 : decode cX3_drop 25 = .ok (.ifCond .ne 11, 3) := by decide +kernel
theorem dX3_drop_28 : decode cX3_drop 28 = .ok (.aload_n 0, 1) := by decide +kernel
theorem dX3_drop_29 : decode cX3_drop 29 = .ok (.getfield 26, 3) := by decide +kernel
theorem dX3_drop_32 : decode cX3_drop 32 = .ok (.iload_n 2, 1) := by decide +kernel
theorem dX3_drop_33 : decode cX3_drop 33 = .ok (.invokevirtual 131, 3) := by decide +kernel
theorem dX3_drop_36 : decode cX3_drop 36 = .ok (.iinc 2 (-1), 3) := by decide +kernel
theorem dX3_drop_39 : decode cX3_drop 39 = .ok (.goto (-23), 3) := by decide +kernel
theorem dX3_drop_42 : decode cX3_drop 42 = .ok (.iload_n 1, 1) := by decide +kernel
theorem dX3_drop_43 : decode cX3_drop 43 = .ok (.aload_n 0, 1) := by decide +kernel
theorem dX3_drop_44 : decode cX3_drop 44 = .ok (.getfield 26, 3) := by decide +kernel
theorem dX3_drop_47 : decode cX3_drop 47 = .ok (.getfield 134, 3) := by decide +kernel
theorem dX3_drop_50 : decode cX3_drop 50 = .ok (.isub, 1) := by decide +kernel
theorem dX3_drop_51 : decode cX3_drop 51 = .ok (.ireturn, 1) := by decide +kernel
set_option maxRecDepth 20000 in
theorem ggX3_shrink_X3_findUses : GoodIn wsX3_shrink wsX3_findUses := goodIn_r _ [8, 3, 9, 10, 1, 11, 12, 13, 7, 14, 15, 16, 17, 18, 19, 20, 21, 22, 23, 24, 25, 26, 27, 28, 29, 30, 31, 32, 33, 34, 35, 36, 37, 38, 39, 40, 41, 42, 43, 44, 45, 46, 47, 48, 49, 50, 51, 52, 53, 54, 55, 2, 56, 57, 58, 59, 64, 65, 66, 67, 68, 69, 70, 71, 72, 73, 74, 75, 76, 77, 78, 84, 85, 86, 87, 88, 89, 90, 79, 80, 81, 82, 83] (by decide +kernel) (by decide +kernel)
set_option maxRecDepth 20000 in
theorem gX3_shrink_X3_findUses : GoodIn wsX3_shrink (wsV RX3 153 RX3 yX3_findUses wsX3_findUses) := goodIn_app (goodIn_of _ (by decide +kernel)) ggX3_shrink_X3_findUses
set_option maxRecDepth 20000 in
theorem ggX3_shrink_X3_hasUse : GoodIn wsX3_shrink wsX3_hasUse := goodIn_r _ [59, 3, 64, 65, 66, 67, 68, 69, 70, 71, 72, 73, 74, 75, 76, 77, 78] (by decide +kernel) (by decide +kernel)
set_option maxRecDepth 20000 in
theorem gX3_shrink_X3_hasUse : GoodIn wsX3_shrink (wsV RX3 156 RX3 yX3_hasUse wsX3_hasUse) := goodIn_app (goodIn_of _ (by decide +kernel)) ggX3_shrink_X3_hasUse
set_option maxRecDepth 20000 in
theorem ggX3_shrink_X3_isTight : GoodIn wsX3_shrink wsX3_isTight := goodIn_r _ [63, 1, 2, 3, 64, 65, 66, 67, 68, 69, 70, 71, 72, 73, 74, 75, 76, 77, 78, 79, 80, 81, 82, 83] (by decide +kernel) (by decide +kernel)
set_option maxRecDepth 20000 in
theorem gX3_shrink_X3_isTight : GoodIn wsX3_shrink (wsV RX3 166 RX3 yX3_isTight wsX3_isTight) := goodIn_app (goodIn_of _ (by decide +kernel)) ggX3_shrink_X3_isTight
theorem dX3_shrink_0 : decode cX3_shrink 0 = .ok (.aload_n 0, 1) := by decide +kernel
theorem dX3_shrink_1 : decode cX3_shrink 1 = .ok (.invokevirtual 153, 3) := by decide +kernel
theorem dX3_shrink_4 : decode cX3_shrink 4 = .ok (.iconst 0, 1) := by decide +kernel
theorem dX3_shrink_5 : decode cX3_shrink 5 = .ok (.istore_n 1, 1) := by decide +kernel
theorem dX3_shrink_6 : decode cX3_shrink 6 = .ok (.iconst 0, 1) := by decide +kernel
theorem dX3_shrink_7 : decode cX3_shrink 7 = .ok (.istore_n 2, 1) := by decide +kernel
theorem dX3_shrink_8 : decode cX3_shrink 8 = .ok (.iload_n 2, 1) := by decide +kernel
theorem dX3_shrink_9 : decode cX3_shrink 9 = .ok (.aload_n 0, 1) := by decide +kernel
theorem dX3_shrink_10 : decode cX3_shrink 10 = .ok (.getfield 26, 3) := by decide +kernel
theorem dX3_shrink_13 : decode cX3_shrink 13 = .ok (.getfield 134, 3) := by decide +kernel
theorem dX3_shrink_16 : decode cX3_shrink 16 = .ok (.if_icmp .ge 58, 3) := by decide +kernel
theorem dX3_shrink_19 : decode cX3_shrink 19 = .ok (.aload_n 0, 1) := by decide +kernel
theorem dX3_shrink_20 : decode cX3_shrink 20 = .ok (.iload_n 2, 1) := by decide +kernel
theorem dX3_shrink_21 : decode cX3_shrink 21 = .ok (.invokevirtual 156, 3) := by decide +kernel
theorem dX3_shrink_24 : decode cX3_shrink 24 = .ok (.ifCond .eq 44, 3) := by decide +kernel
theorem dX3_shrink_27 : decode cX3_shrink 27 = .ok (.aload_n 0, 1) := by decide +kernel
theorem dX3_shrink_28 : decode cX3_shrink 28 = .ok (.iload_n 2, 1) := by decide +kernel
theorem dX3_shrink_29 : decode cX3_shrink 29 = .ok (.invokevirtual 166, 3) := by decide +kernel
theorem dX3_shrink_32 : decode cX3_shrink 32 = .ok (.ifCond .ne 36, 3) := by decide +kernel
theorem dX3_shrink_35 : decode cX3_shrink 35 = .ok (.aload_n 0, 1) := by decide +kernel
theorem dX3_shrink_36 : decode cX3_shrink 36 = .ok (.getfield 26, 3) := by decide +kernel
theorem dX3_shrink_39 : decode cX3_shrink 39 = .ok (.getfield 135, 3) := by decide +kernel
theorem dX3_shrink_42 : decode cX3_shrink 42 = .ok (.iload_n 2, 1) := by decide +kernel
theorem dX3_shrink_43 : decode cX3_shrink 43 = .ok (.aload_n 0, 1) := by decide +kernel
theorem dX3_shrink_44 : decode cX3_shrink 44 = .ok (.getfield 41, 3) := by decide +kernel
theorem dX3_shrink_47 : decode cX3_shrink 47 = .ok (.iload_n 2, 1) := by decide +kernel
theorem dX3_shrink_48 : decode cX3_shrink 48 = .ok (.iaload, 1) := by decide +kernel
theorem dX3_shrink_49 : decode cX3_shrink 49 = .ok (.iastore, 1) := by decide +kernel
theorem dX3_shrink_50 : decode cX3_shrink 50 = .ok (.aload_n 0, 1) := by decide +kernel
theorem dX3_shrink_51 : decode cX3_shrink 51 = .ok (.getfield 26, 3) := by decide +kernel
theorem dX3_shrink_54 : decode cX3_shrink 54 = .ok (.getfield 138, 3) := by decide +kernel
theorem dX3_shrink_57 : decode cX3_shrink 57 = .ok (.iload_n 2, 1) := by decide +kernel
theorem dX3_shrink_58 : decode cX3_shrink 58 = .ok (.aload_n 0, 1) := by decide +kernel
theorem dX3_shrink_59 : decode cX3_shrink 59 = .ok (.getfield 44, 3) := by decide +kernel
theorem dX3_shrink_62 : decode cX3_shrink 62 = .ok (.iload_n 2, 1) := by decide +kernel
theorem dX3_shrink_63 : decode cX3_shrink 63 = .ok (.iaload, 1) := by decide +kernel
theorem dX3_shrink_64 : decode cX3_shrink 64 = .ok (.iastore, 1) := by decide +kernel
theorem dX3_shrink_65 : decode cX3_shrink 65 = .ok (.iinc 1 1, 3) := by decide +kernel
theorem dX3_shrink_68 : decode cX3_shrink 68 = .ok (.iinc 2 1, 3) := by decide +kernel
theorem dX3_shrink_71 : decode cX3_shrink 71 = .ok (.goto (-63), 3) := by decide +kernel
theorem dX3_shrink_74 : decode cX3_shrink 74 = .ok (.iload_n 1, 1) := by decide +kernel
theorem dX3_shrink_75 : decode cX3_shrink 75 = .ok (.ireturn, 1) := by decide +kernel
set_option maxRecDepth 20000 in
theorem ggX3_join_X3_findReached : GoodIn wsX3_join wsX3_findReached := goodIn_r _ [5, 6, 7, 8, 9, 10, 11, 4, 12, 13, 14, 15, 16, 17, 18, 19, 20, 21, 22, 23, 24, 25, 26, 27, 28, 29, 30, 31, 32, 33, 34, 35, 36, 37, 38, 39, 40, 41, 91, 92, 93, 94, 95, 96, 97, 98, 99, 100, 101, 102, 103, 104, 105, 106, 107, 108, 109, 110, 111, 112, 113, 114, 115, 116, 117] (by decide +kernel) (by decide +kernel)
set_option maxRecDepth 20000 in
theorem gX3_join_X3_findReached : GoodIn wsX3_join (wsV RX3 150 RX3 yX3_findReached wsX3_findReached) := goodIn_app (goodIn_of _ (by decide +kernel)) ggX3_join_X3_findReached
set_option maxRecDepth 20000 in
theorem ggX3_join_X3_findGoals : GoodIn wsX3_join wsX3_findGoals := goodIn_r _ [45, 13, 23, 46, 24, 29, 30, 31, 32, 33, 34, 35, 36, 37, 38, 39, 40, 41, 91, 92, 93, 94, 95, 96, 97, 98, 99, 100, 101, 102, 103, 104, 105, 106, 107, 108, 109, 110, 111, 112, 113, 114, 115, 116, 117] (by decide +kernel) (by decide +kernel)
set_option maxRecDepth 20000 in
theorem gX3_join_X3_findGoals : GoodIn wsX3_join (wsV RX3 169 RX3 yX3_findGoals wsX3_findGoals) := goodIn_app (goodIn_of _ (by decide +kernel)) ggX3_join_X3_findGoals
set_option maxRecDepth 20000 in
theorem ggX3_join_X3_joinFirstPair : GoodIn wsX3_join wsX3_joinFirstPair := goodIn_r _ [50, 24, 51, 52, 53, 4, 54, 55, 56, 57, 58, 59, 60, 61, 62, 23, 63, 30, 64, 65, 38, 66, 67, 68, 69, 39, 40, 41, 33, 70, 71, 72, 73, 74, 75, 76, 77, 78, 79, 80, 81, 82, 83, 84, 85, 86, 13, 46, 87, 88, 89, 90, 6, 25, 15, 26, 27, 28, 29, 31, 32, 34, 35, 36, 37, 91, 92, 93, 94, 95, 96, 97, 98, 99, 100, 101, 102, 103, 104, 105, 113, 114, 115, 116, 117, 110, 111, 112, 106, 107, 108, 109] (by decide +kernel) (by decide +kernel)
set_option maxRecDepth 20000 in
theorem gX3_join_X3_joinFirstPair : GoodIn wsX3_join (wsV RX3 172 RX3 yX3_joinFirstPair wsX3_joinFirstPair) := goodIn_app (goodIn_of _ (by decide +kernel)) ggX3_join_X3_joinFirstPair
theorem dX3_join_0 : decode cX3_join 0 = .ok (.aload_n 0, 1) := by decide +kernel
theorem dX3_join_1 : decode cX3_join 1 = .ok (.invokevirtual 150, 3) := by decide +kernel
theorem dX3_join_4 : decode cX3_join 4 = .ok (.aload_n 0, 1) := by decide +kernel
theorem dX3_join_5 : decode cX3_join 5 = .ok (.invokevirtual 169, 3) := by decide +kernel
theorem dX3_join_8 : decode cX3_join 8 = .ok (.iconst 0, 1) := by decide +kernel
theorem dX3_join_9 : decode cX3_join 9 = .ok (.istore_n 1, 1) := by decide +kernel
theorem dX3_join_10 : decode cX3_join 10 = .ok (.iload_n 1, 1) := by decide +kernel
theorem dX3_join_11 : decode cX3_join 11 = .ok (.bipush 24, 2) := by decide +kernel
theorem dX3_join_13 : decode cX3_join 13 = .ok (.if_icmp .ge 16, 3) := by decide +kernel
theorem dX3_join_16 : decode cX3_join 16 = .ok (.aload_n 0, 1) := by decide +kernel
theorem dX3_join_17 : decode cX3_join 17 = .ok (.invokevirtual 172, 3) := by decide +kernel
theorem dX3_join_20 : decode cX3_join 20 = .ok (.ifCond .eq 9, 3) := by decide +kernel
theorem dX3_join_23 : decode cX3_join 23 = .ok (.iinc 1 1, 3) := by decide +kernel
theorem dX3_join_26 : decode cX3_join 26 = .ok (.goto (-16), 3) := by decide +kernel
theorem dX3_join_29 : decode cX3_join 29 = .ok (.iload_n 1, 1) := by decide +kernel
theorem dX3_join_30 : decode cX3_join 30 = .ok (.ireturn, 1) := by decide +kernel
set_option maxRecDepth 20000 in
theorem ggX3_improve_X3_drop : GoodIn wsX3_improve wsX3_drop := goodIn_r _ [5, 6, 7, 8, 9, 4, 10, 11, 12, 13, 14, 15, 16, 17, 18, 19, 20, 21, 22, 23, 24, 25, 26, 27, 28, 29, 30, 31, 32, 33, 34, 35, 36, 37, 38, 39, 40, 41, 42, 43, 44, 45, 46, 47, 48, 49, 50, 51, 52, 53, 54, 55, 56, 57, 58, 59, 60, 61, 62, 63, 64, 65, 66, 67, 68, 69, 70, 121, 122, 123, 124, 125, 126, 127, 128, 129, 130, 131, 132, 133, 134, 135, 136, 137, 138, 139, 140, 141, 142, 143, 144, 145, 146, 147] (by decide +kernel) (by decide +kernel)
set_option maxRecDepth 20000 in
theorem gX3_improve_X3_drop : GoodIn wsX3_improve (wsV RX3 175 RX3 yX3_drop wsX3_drop) := goodIn_app (goodIn_of _ (by decide +kernel)) ggX3_improve_X3_drop
set_option maxRecDepth 20000 in
theorem ggX3_improve_X3_shrink : GoodIn wsX3_improve wsX3_shrink := goodIn_r _ [74, 6, 59, 11, 7, 8, 9, 4, 10, 12, 13, 14, 15, 16, 17, 18, 19, 20, 21, 22, 23, 24, 25, 26, 27, 28, 29, 30, 31, 32, 33, 34, 35, 36, 37, 38, 39, 40, 41, 42, 43, 44, 45, 46, 47, 48, 49, 50, 51, 52, 53, 54, 55, 56, 57, 58, 60, 61, 62, 63, 75, 76, 77, 78, 121, 122, 123, 124, 125, 126, 127, 128, 129, 130, 131, 132, 133, 134, 135, 136, 137, 138, 139, 140, 141, 142, 143, 144, 145, 146, 147] (by decide +kernel) (by decide +kernel)
set_option maxRecDepth 20000 in
theorem gX3_improve_X3_shrink : GoodIn wsX3_improve (wsV RX3 179 RX3 yX3_shrink wsX3_shrink) := goodIn_app (goodIn_of _ (by decide +kernel)) ggX3_improve_X3_shrink
set_option maxRecDepth 20000 in
theorem ggX3_improve_X3_join : GoodIn wsX3_improve wsX3_join := goodIn_r _ [82, 14, 15, 16, 4, 17, 18, 19, 20, 21, 22, 23, 24, 12, 25, 26, 27, 28, 29, 30, 31, 32, 33, 13, 6, 34, 35, 36, 37, 38, 39, 40, 41, 42, 43, 44, 45, 46, 47, 48, 49, 50, 83, 84, 85, 86, 87, 88, 89, 90, 91, 92, 93, 94, 95, 96, 97, 98, 99, 100, 101, 102, 103, 104, 105, 106, 67, 68, 69, 70, 107, 108, 109, 110, 111, 112, 113, 114, 115, 116, 64, 65, 66, 117, 118, 119, 120, 51, 52, 53, 54, 121, 122, 123, 124, 125, 126, 127, 128, 129, 130, 131, 132, 133, 134, 135, 141, 142, 143, 144, 145, 146, 147, 136, 137, 138, 139, 140] (by decide +kernel) (by decide +kernel)
set_option maxRecDepth 20000 in
theorem gX3_improve_X3_join : GoodIn wsX3_improve (wsV RX3 182 RX3 yX3_join wsX3_join) := goodIn_app (goodIn_of _ (by decide +kernel)) ggX3_improve_X3_join
theorem dX3_improve_0 : decode cX3_improve 0 = .ok (.iconst 0, 1) := by decide +kernel
theorem dX3_improve_1 : decode cX3_improve 1 = .ok (.istore_n 1, 1) := by decide +kernel
theorem dX3_improve_2 : decode cX3_improve 2 = .ok (.iload_n 1, 1) := by decide +kernel
theorem dX3_improve_3 : decode cX3_improve 3 = .ok (.bipush 26, 2) := by decide +kernel
theorem dX3_improve_5 : decode cX3_improve 5 = .ok (.if_icmp .ge 26, 3) := by decide +kernel
theorem dX3_improve_8 : decode cX3_improve 8 = .ok (.aload_n 0, 1) := by decide +kernel
theorem dX3_improve_9 : decode cX3_improve 9 = .ok (.invokevirtual 175, 3) := by decide +kernel
theorem dX3_improve_12 : decode cX3_improve 12 = .ok (.aload_n 0, 1) := by decide +kernel
theorem dX3_improve_13 : decode cX3_improve 13 = .ok (.invokevirtual 179, 3) := by decide +kernel
theorem dX3_improve_16 : decode cX3_improve 16 = .ok (.iadd, 1) := by decide +kernel
theorem dX3_improve_17 : decode cX3_improve 17 = .ok (.aload_n 0, 1) := by decide +kernel
theorem dX3_improve_18 : decode cX3_improve 18 = .ok (.invokevirtual 182, 3) := by decide +kernel
theorem dX3_improve_21 : decode cX3_improve 21 = .ok (.iadd, 1) := by decide +kernel
theorem dX3_improve_22 : decode cX3_improve 22 = .ok (.ifCond .le 9, 3) := by decide +kernel
theorem dX3_improve_25 : decode cX3_improve 25 = .ok (.iinc 1 1, 3) := by decide +kernel
theorem dX3_improve_28 : decode cX3_improve 28 = .ok (.goto (-26), 3) := by decide +kernel
theorem dX3_improve_31 : decode cX3_improve 31 = .ok (.iload_n 1, 1) := by decide +kernel
theorem dX3_improve_32 : decode cX3_improve 32 = .ok (.ireturn, 1) := by decide +kernel
set_option maxRecDepth 20000 in
theorem ggX3_sweep_X3_findReached : GoodIn wsX3_sweep wsX3_findReached := goodIn_r _ [6, 7, 8, 9, 10, 11, 12, 5, 13, 1, 14, 15, 16, 17, 18, 19, 20, 21, 22, 23, 24, 25, 26, 27, 28, 29, 30, 31, 32, 33, 34, 35, 36, 37, 38, 39, 40, 41, 71, 72, 73, 74, 75, 76, 77, 78, 79, 80, 81, 82, 83, 84, 85, 86, 87, 88, 89, 90, 91, 92, 93, 94, 95, 96, 97] (by decide +kernel) (by decide +kernel)
set_option maxRecDepth 20000 in
theorem gX3_sweep_X3_findReached : GoodIn wsX3_sweep (wsV RX3 150 RX3 yX3_findReached wsX3_findReached) := goodIn_app (goodIn_of _ (by decide +kernel)) ggX3_sweep_X3_findReached
set_option maxRecDepth 20000 in
theorem ggX3_sweep_X3_countRemovedAhead : GoodIn wsX3_sweep wsX3_countRemovedAhead := goodIn_r _ [45, 46, 1, 7, 14, 15, 16, 17, 18, 71, 72, 73, 74, 75, 76, 77, 78, 79, 80, 81, 82, 83, 84, 85, 86, 87, 88, 89] (by decide +kernel) (by decide +kernel)
set_option maxRecDepth 20000 in
theorem gX3_sweep_X3_countRemovedAhead : GoodIn wsX3_sweep (wsV RX3 185 RX3 yX3_countRemovedAhead wsX3_countRemovedAhead) := goodIn_app (goodIn_of _ (by decide +kernel)) ggX3_sweep_X3_countRemovedAhead
set_option maxRecDepth 20000 in
theorem ggX3_sweep_X3_sweepTable : GoodIn wsX3_sweep wsX3_sweepTable := goodIn_r _ [50, 24, 51, 52, 53, 5, 54, 46, 55, 30, 56, 57, 38, 58, 59, 60, 61, 39, 40, 41, 33, 71, 72, 73, 74, 75, 76, 77, 78, 79, 80, 81, 82, 83, 84, 85, 93, 94, 95, 96, 97] (by decide +kernel) (by decide +kernel)
set_option maxRecDepth 20000 in
theorem gX3_sweep_X3_sweepTable : GoodIn wsX3_sweep (wsV RX3 188 RX3 yX3_sweepTable wsX3_sweepTable) := goodIn_app (goodIn_of _ (by decide +kernel)) ggX3_sweep_X3_sweepTable
set_option maxRecDepth 20000 in
theorem ggX3_sweep_X3_sweepCode : GoodIn wsX3_sweep wsX3_sweepCode := goodIn_r _ [65, 1, 7, 51, 52, 53, 5, 54, 46, 66, 15, 67, 68, 18, 69, 28, 70, 71, 72, 73, 74, 75, 76, 77, 78, 79, 80, 81, 82, 83, 84, 85, 86, 87, 88, 89] (by decide +kernel) (by decide +kernel)
set_option maxRecDepth 20000 in
theorem gX3_sweep_X3_sweepCode : GoodIn wsX3_sweep (wsV RX3 191 RX3 yX3_sweepCode wsX3_sweepCode) := goodIn_app (goodIn_of _ (by decide +kernel)) ggX3_sweep_X3_sweepCode
theorem dX3_sweep_0 : decode cX3_sweep 0 = .ok (.aload_n 0, 1) := by decide +kernel
theorem dX3_sweep_1 : decode cX3_sweep 1 = .ok (.invokevirtual 150, 3) := by decide +kernel
theorem dX3_sweep_4 : decode cX3_sweep 4 = .ok (.aload_n 0, 1) := by decide +kernel
theorem dX3_sweep_5 : decode cX3_sweep 5 = .ok (.invokevirtual 185, 3) := by decide +kernel
theorem dX3_sweep_8 : decode cX3_sweep 8 = .ok (.aload_n 0, 1) := by decide +kernel
theorem dX3_sweep_9 : decode cX3_sweep 9 = .ok (.invokevirtual 188, 3) := by decide +kernel
theorem dX3_sweep_12 : decode cX3_sweep 12 = .ok (.aload_n 0, 1) := by decide +kernel
theorem dX3_sweep_13 : decode cX3_sweep 13 = .ok (.getfield 19, 3) := by decide +kernel
theorem dX3_sweep_16 : decode cX3_sweep 16 = .ok (.getfield 99, 3) := by decide +kernel
theorem dX3_sweep_19 : decode cX3_sweep 19 = .ok (.istore_n 1, 1) := by decide +kernel
theorem dX3_sweep_20 : decode cX3_sweep 20 = .ok (.aload_n 0, 1) := by decide +kernel
theorem dX3_sweep_21 : decode cX3_sweep 21 = .ok (.invokevirtual 191, 3) := by decide +kernel
theorem dX3_sweep_24 : decode cX3_sweep 24 = .ok (.iload_n 1, 1) := by decide +kernel
theorem dX3_sweep_25 : decode cX3_sweep 25 = .ok (.aload_n 0, 1) := by decide +kernel
theorem dX3_sweep_26 : decode cX3_sweep 26 = .ok (.getfield 19, 3) := by decide +kernel
theorem dX3_sweep_29 : decode cX3_sweep 29 = .ok (.getfield 99, 3) := by decide +kernel
theorem dX3_sweep_32 : decode cX3_sweep 32 = .ok (.isub, 1) := by decide +kernel
theorem dX3_sweep_33 : decode cX3_sweep 33 = .ok (.ireturn, 1) := by decide +kernel
set_option maxRecDepth 20000 in
theorem ggX3_run_X0_has : GoodIn wsX3_run wsX0_has := goodIn_r _ [12, 13, 73, 74, 75, 76] (by decide +kernel) (by decide +kernel)
set_option maxRecDepth 20000 in
theorem gX3_run_X0_has_n208 : GoodIn wsX3_run (wsX0_has) := ggX3_run_X0_has
set_option maxRecDepth 20000 in
theorem ggX3_run_X0_normalOptions : GoodIn wsX3_run wsX0_normalOptions := goodIn_r _ [16, 17, 73, 74, 75, 76] (by decide +kernel) (by decide +kernel)
set_option maxRecDepth 20000 in
theorem gX3_run_X0_normalOptions_n211 : GoodIn wsX3_run (wsX0_normalOptions) := ggX3_run_X0_normalOptions
set_option maxRecDepth 20000 in
theorem ggX3_run_J6_bitCount_0f7a4 : GoodIn wsX3_run wsJ6_bitCount_0f7a4 := goodIn_r _ [21, 22, 23, 24] (by decide +kernel) (by decide +kernel)
set_option maxRecDepth 20000 in
theorem gX3_run_J6_bitCount_0f7a4 : GoodIn wsX3_run (va_wsS RX3 214 yJ6_bitCount_0f7a4 wsJ6_bitCount_0f7a4) := goodIn_app (goodIn_of _ (by decide +kernel)) ggX3_run_J6_bitCount_0f7a4
set_option maxRecDepth 20000 in
theorem ggX3_run_X3_execute : GoodIn wsX3_run wsX3_execute := goodIn_r _ [29, 8, 3, 7, 30, 14, 10, 15, 16, 17, 31, 32, 33, 34, 35, 36, 37, 28, 38, 39, 40, 41, 42, 43, 44, 45, 46, 47, 48, 49, 5, 4, 50, 51, 52, 53, 54, 55, 56, 57, 58, 59, 60, 61, 62, 63, 64, 65, 66, 67, 68, 69, 70, 71, 72, 73, 74, 75, 76, 77, 78, 79, 80, 81, 82, 83, 84] (by decide +kernel) (by decide +kernel)
set_option maxRecDepth 20000 in
theorem gX3_run_X3_execute : GoodIn wsX3_run (wsV RX3 219 RX3 yX3_execute wsX3_execute) := goodIn_app (goodIn_of _ (by decide +kernel)) ggX3_run_X3_execute
theorem dX3_run_0 : decode cX3_run 0 = .ok (.lload_n 1, 1) := by decide +kernel
theorem dX3_run_1 : decode cX3_run 1 = .ok (.lconst 0, 1) := by decide +kernel
theorem dX3_run_2 : decode cX3_run 2 = .ok (.lcmp, 1) := by decide +kernel
theorem dX3_run_3 : decode cX3_run 3 = .ok (.ifCond .lt 14, 3) := by decide +kernel
theorem dX3_run_6 : decode cX3_run 6 = .ok (.iload_n 3, 1) := by decide +kernel
theorem dX3_run_7 : decode cX3_run 7 = .ok (.ifCond .lt 10, 3) := by decide +kernel
theorem dX3_run_10 : decode cX3_run 10 = .ok (.iload_n 3, 1) := by decide +kernel
theorem dX3_run_11 : decode cX3_run 11 = .ok (.sipush 500, 3) := by decide +kernel
theorem dX3_run_14 : decode cX3_run 14 = .ok (.if_icmp .le 13, 3) := by decide +kernel
theorem dX3_run_17 : decode cX3_run 17 = .ok (.new 117, 3) := by decide +kernel
theorem dX3_run_20 : decode cX3_run 20 = .ok (.dup, 1) := by decide +kernel
theorem dX3_run_21 : decode cX3_run 21 = .ok (.ldc 194, 2) := by decide +kernel
theorem dX3_run_23 : decode cX3_run 23 = .ok (.invokespecial 121, 3) := by decide +kernel
theorem dX3_run_26 : decode cX3_run 26 = .ok (.athrow, 1) := by decide +kernel
theorem dX3_run_27 : decode cX3_run 27 = .ok (.aload_n 0, 1) := by decide +kernel
theorem dX3_run_28 : decode cX3_run 28 = .ok (.iconst 0, 1) := by decide +kernel
theorem dX3_run_29 : decode cX3_run 29 = .ok (.putfield 196, 3) := by decide +kernel
theorem dX3_run_32 : decode cX3_run 32 = .ok (.aload_n 0, 1) := by decide +kernel
theorem dX3_run_33 : decode cX3_run 33 = .ok (.iconst 0, 1) := by decide +kernel
theorem dX3_run_34 : decode cX3_run 34 = .ok (.putfield 199, 3) := by decide +kernel
theorem dX3_run_37 : decode cX3_run 37 = .ok (.aload_n 0, 1) := by decide +kernel
theorem dX3_run_38 : decode cX3_run 38 = .ok (.iconst (-1), 1) := by decide +kernel
theorem dX3_run_39 : decode cX3_run 39 = .ok (.putfield 53, 3) := by decide +kernel
theorem dX3_run_42 : decode cX3_run 42 = .ok (.aload_n 0, 1) := by decide +kernel
theorem dX3_run_43 : decode cX3_run 43 = .ok (.ldc2_w 202, 3) := by decide +kernel
theorem dX3_run_46 : decode cX3_run 46 = .ok (.putfield 204, 3) := by decide +kernel
theorem dX3_run_49 : decode cX3_run 49 = .ok (.lload_n 1, 1) := by decide +kernel
theorem dX3_run_50 : decode cX3_run 50 = .ok (.lstore 4, 2) := by decide +kernel
theorem dX3_run_52 : decode cX3_run 52 = .ok (.iconst 0, 1) := by decide +kernel
theorem dX3_run_53 : decode cX3_run 53 = .ok (.istore 6, 2) := by decide +kernel
theorem dX3_run_55 : decode cX3_run 55 = .ok (.iconst 0, 1) := by decide +kernel
theorem dX3_run_56 : decode cX3_run 56 = .ok (.istore 7, 2) := by decide +kernel
theorem dX3_run_58 : decode cX3_run 58 = .ok (.iload 7, 2) := by decide +kernel
theorem dX3_run_60 : decode cX3_run 60 = .ok (.iload_n 3, 1) := by decide +kernel
theorem dX3_run_61 : decode cX3_run 61 = .ok (.if_icmp .ge 82, 3) := by decide +kernel
theorem dX3_run_64 : decode cX3_run 64 = .ok (.aload_n 0, 1) := by decide +kernel
theorem dX3_run_65 : decode cX3_run 65 = .ok (.getfield 19, 3) := by decide +kernel
theorem dX3_run_68 : decode cX3_run 68 = .ok (.iload 6, 2) := by decide +kernel
theorem dX3_run_70 : decode cX3_run 70 = .ok (.invokevirtual 208, 3) := by decide +kernel
theorem dX3_run_73 : decode cX3_run 73 = .ok (.ifCond .eq 70, 3) := by decide +kernel
theorem dX3_run_76 : decode cX3_run 76 = .ok (.aload_n 0, 1) := by decide +kernel
theorem dX3_run_77 : decode cX3_run 77 = .ok (.getfield 19, 3) := by decide +kernel
theorem dX3_run_80 : decode cX3_run 80 = .ok (.iload 6, 2) := by decide +kernel
theorem dX3_run_82 : decode cX3_run 82 = .ok (.invokevirtual 211, 3) := by decide +kernel
theorem dX3_run_85 : decode cX3_run 85 = .ok (.aload_n 0, 1) := by decide +kernel
theorem dX3_run_86 : decode cX3_run 86 = .ok (.getfield 19, 3) := by decide +kernel
theorem dX3_run_89 : decode cX3_run 89 = .ok (.getfield 106, 3) := by decide +kernel
theorem dX3_run_92 : decode cX3_run 92 = .ok (.iload 6, 2) := by decide +kernel
theorem dX3_run_94 : decode cX3_run 94 = .ok (.iaload, 1) := by decide +kernel
theorem dX3_run_95 : decode cX3_run 95 = .ok (.invokestatic 214, 3) := by decide +kernel
theorem dX3_run_98 : decode cX3_run 98 = .ok (.iadd, 1) := by decide +kernel
theorem dX3_run_99 : decode cX3_run 99 = .ok (.istore 8, 2) := by decide +kernel
theorem dX3_run_101 : decode cX3_run 101 = .ok (.iconst 0, 1) := by decide +kernel
theorem dX3_run_102 : decode cX3_run 102 = .ok (.istore 9, 2) := by decide +kernel
theorem dX3_run_104 : decode cX3_run 104 = .ok (.iload 8, 2) := by decide +kernel
theorem dX3_run_106 : decode cX3_run 106 = .ok (.iconst 1, 1) := by decide +kernel
theorem dX3_run_107 : decode cX3_run 107 = .ok (.if_icmp .le 20, 3) := by decide +kernel
theorem dX3_run_110 : decode cX3_run 110 = .ok (.lload 4, 2) := by decide +kernel
theorem dX3_run_112 : decode cX3_run 112 = .ok (.iload 8, 2) := by decide +kernel
theorem dX3_run_114 : decode cX3_run 114 = .ok (.i2l, 1) := by decide +kernel
theorem dX3_run_115 : decode cX3_run 115 = .ok (.lrem, 1) := by decide +kernel
theorem dX3_run_116 : decode cX3_run 116 = .ok (.l2i, 1) := by decide +kernel
theorem dX3_run_117 : decode cX3_run 117 = .ok (.istore 9, 2) := by decide +kernel
theorem dX3_run_119 : decode cX3_run 119 = .ok (.lload 4, 2) := by decide +kernel
theorem dX3_run_121 : decode cX3_run 121 = .ok (.iload 8, 2) := by decide +kernel
theorem dX3_run_123 : decode cX3_run 123 = .ok (.i2l, 1) := by decide +kernel
theorem dX3_run_124 : decode cX3_run 124 = .ok (.ldiv, 1) := by decide +kernel
theorem dX3_run_125 : decode cX3_run 125 = .ok (.lstore 4, 2) := by decide +kernel
theorem dX3_run_127 : decode cX3_run 127 = .ok (.aload_n 0, 1) := by decide +kernel
theorem dX3_run_128 : decode cX3_run 128 = .ok (.iload 6, 2) := by decide +kernel
theorem dX3_run_130 : decode cX3_run 130 = .ok (.iload 9, 2) := by decide +kernel
theorem dX3_run_132 : decode cX3_run 132 = .ok (.invokevirtual 219, 3) := by decide +kernel
theorem dX3_run_135 : decode cX3_run 135 = .ok (.istore 6, 2) := by decide +kernel
theorem dX3_run_137 : decode cX3_run 137 = .ok (.iinc 7 1, 3) := by decide +kernel
theorem dX3_run_140 : decode cX3_run 140 = .ok (.goto (-82), 3) := by decide +kernel
theorem dX3_run_143 : decode cX3_run 143 = .ok (.aload_n 0, 1) := by decide +kernel
theorem dX3_run_144 : decode cX3_run 144 = .ok (.getfield 53, 3) := by decide +kernel
theorem dX3_run_147 : decode cX3_run 147 = .ok (.iconst (-1), 1) := by decide +kernel
theorem dX3_run_148 : decode cX3_run 148 = .ok (.if_icmp .eq 5, 3) := by decide +kernel
theorem dX3_run_151 : decode cX3_run 151 = .ok (.iconst 1, 1) := by decide +kernel
theorem dX3_run_152 : decode cX3_run 152 = .ok (.ireturn, 1) := by decide +kernel
theorem dX3_run_153 : decode cX3_run 153 = .ok (.aload_n 0, 1) := by decide +kernel
theorem dX3_run_154 : decode cX3_run 154 = .ok (.getfield 19, 3) := by decide +kernel
theorem dX3_run_157 : decode cX3_run 157 = .ok (.iload 6, 2) := by decide +kernel
theorem dX3_run_159 : decode cX3_run 159 = .ok (.invokevirtual 208, 3) := by decide +kernel
theorem dX3_run_162 : decode cX3_run 162 = .ok (.ifCond .eq 7, 3) := by decide +kernel
theorem dX3_run_165 : decode cX3_run 165 = .ok (.iconst 2, 1) := by decide +kernel
theorem dX3_run_166 : decode cX3_run 166 = .ok (.goto 4, 3) := by decide +kernel
theorem dX3_run_169 : decode cX3_run 169 = .ok (.iconst 0, 1) := by decide +kernel
theorem dX3_run_170 : decode cX3_run 170 = .ok (.ireturn, 1) := by decide +kernel
theorem dX3_executed_0 : decode cX3_executed 0 = .ok (.aload_n 0, 1) := by decide +kernel
theorem dX3_executed_1 : decode cX3_executed 1 = .ok (.getfield 196, 3) := by decide +kernel
theorem dX3_executed_4 : decode cX3_executed 4 = .ok (.ireturn, 1) := by decide +kernel
theorem dX3_taken_0 : decode cX3_taken 0 = .ok (.aload_n 0, 1) := by decide +kernel
theorem dX3_taken_1 : decode cX3_taken 1 = .ok (.getfield 199, 3) := by decide +kernel
theorem dX3_taken_4 : decode cX3_taken 4 = .ok (.ireturn, 1) := by decide +kernel
theorem dX3_escaped_0 : decode cX3_escaped 0 = .ok (.aload_n 0, 1) := by decide +kernel
theorem dX3_escaped_1 : decode cX3_escaped 1 = .ok (.getfield 53, 3) := by decide +kernel
theorem dX3_escaped_4 : decode cX3_escaped 4 = .ok (.ireturn, 1) := by decide +kernel
theorem dX3_way_0 : decode cX3_way 0 = .ok (.aload_n 0, 1) := by decide +kernel
theorem dX3_way_1 : decode cX3_way 1 = .ok (.getfield 204, 3) := by decide +kernel
theorem dX3_way_4 : decode cX3_way 4 = .ok (.lreturn, 1) := by decide +kernel
theorem dX3_digest_0 : decode cX3_digest 0 = .ok (.ldc2_w 222, 3) := by decide +kernel
theorem dX3_digest_3 : decode cX3_digest 3 = .ok (.lstore_n 1, 1) := by decide +kernel
theorem dX3_digest_4 : decode cX3_digest 4 = .ok (.lload_n 1, 1) := by decide +kernel
theorem dX3_digest_5 : decode cX3_digest 5 = .ok (.ldc2_w 224, 3) := by decide +kernel
theorem dX3_digest_8 : decode cX3_digest 8 = .ok (.lmul, 1) := by decide +kernel
theorem dX3_digest_9 : decode cX3_digest 9 = .ok (.aload_n 0, 1) := by decide +kernel
theorem dX3_digest_10 : decode cX3_digest 10 = .ok (.getfield 12, 3) := by decide +kernel
theorem dX3_digest_13 : decode cX3_digest 13 = .ok (.getfield 76, 3) := by decide +kernel
theorem dX3_digest_16 : decode cX3_digest 16 = .ok (.i2l, 1) := by decide +kernel
theorem dX3_digest_17 : decode cX3_digest 17 = .ok (.ladd, 1) := by decide +kernel
theorem dX3_digest_18 : decode cX3_digest 18 = .ok (.lstore_n 1, 1) := by decide +kernel
theorem dX3_digest_19 : decode cX3_digest 19 = .ok (.iconst 1, 1) := by decide +kernel
theorem dX3_digest_20 : decode cX3_digest 20 = .ok (.istore_n 3, 1) := by decide +kernel
theorem dX3_digest_21 : decode cX3_digest 21 = .ok (.iload_n 3, 1) := by decide +kernel
theorem dX3_digest_22 : decode cX3_digest 22 = .ok (.aload_n 0, 1) := by decide +kernel
theorem dX3_digest_23 : decode cX3_digest 23 = .ok (.getfield 12, 3) := by decide +kernel
theorem dX3_digest_26 : decode cX3_digest 26 = .ok (.getfield 76, 3) := by decide +kernel
theorem dX3_digest_29 : decode cX3_digest 29 = .ok (.if_icmp .ge 26, 3) := by decide +kernel
theorem dX3_digest_32 : decode cX3_digest 32 = .ok (.lload_n 1, 1) := by decide +kernel
theorem dX3_digest_33 : decode cX3_digest 33 = .ok (.ldc2_w 224, 3) := by decide +kernel
theorem dX3_digest_36 : decode cX3_digest 36 = .ok (.lmul, 1) := by decide +kernel
theorem dX3_digest_37 : decode cX3_digest 37 = .ok (.aload_n 0, 1) := by decide +kernel
theorem dX3_digest_38 : decode cX3_digest 38 = .ok (.getfield 12, 3) := by decide +kernel
theorem dX3_digest_41 : decode cX3_digest 41 = .ok (.getfield 226, 3) := by decide +kernel
theorem dX3_digest_44 : decode cX3_digest 44 = .ok (.iload_n 3, 1) := by decide +kernel
theorem dX3_digest_45 : decode cX3_digest 45 = .ok (.iaload, 1) := by decide +kernel
theorem dX3_digest_46 : decode cX3_digest 46 = .ok (.i2l, 1) := by decide +kernel
theorem dX3_digest_47 : decode cX3_digest 47 = .ok (.ladd, 1) := by decide +kernel
theorem dX3_digest_48 : decode cX3_digest 48 = .ok (.lstore_n 1, 1) := by decide +kernel
theorem dX3_digest_49 : decode cX3_digest 49 = .ok (.iinc 3 1, 3) := by decide +kernel
theorem dX3_digest_52 : decode cX3_digest 52 = .ok (.goto (-31), 3) := by decide +kernel
theorem dX3_digest_55 : decode cX3_digest 55 = .ok (.lload_n 1, 1) := by decide +kernel
theorem dX3_digest_56 : decode cX3_digest 56 = .ok (.ldc2_w 224, 3) := by decide +kernel
theorem dX3_digest_59 : decode cX3_digest 59 = .ok (.lmul, 1) := by decide +kernel
theorem dX3_digest_60 : decode cX3_digest 60 = .ok (.aload_n 0, 1) := by decide +kernel
theorem dX3_digest_61 : decode cX3_digest 61 = .ok (.getfield 19, 3) := by decide +kernel
theorem dX3_digest_64 : decode cX3_digest 64 = .ok (.getfield 99, 3) := by decide +kernel
theorem dX3_digest_67 : decode cX3_digest 67 = .ok (.i2l, 1) := by decide +kernel
theorem dX3_digest_68 : decode cX3_digest 68 = .ok (.ladd, 1) := by decide +kernel
theorem dX3_digest_69 : decode cX3_digest 69 = .ok (.lstore_n 1, 1) := by decide +kernel
theorem dX3_digest_70 : decode cX3_digest 70 = .ok (.iconst 0, 1) := by decide +kernel
theorem dX3_digest_71 : decode cX3_digest 71 = .ok (.istore_n 3, 1) := by decide +kernel
theorem dX3_digest_72 : decode cX3_digest 72 = .ok (.iload_n 3, 1) := by decide +kernel
theorem dX3_digest_73 : decode cX3_digest 73 = .ok (.aload_n 0, 1) := by decide +kernel
theorem dX3_digest_74 : decode cX3_digest 74 = .ok (.getfield 19, 3) := by decide +kernel
theorem dX3_digest_77 : decode cX3_digest 77 = .ok (.getfield 99, 3) := by decide +kernel
theorem dX3_digest_80 : decode cX3_digest 80 = .ok (.if_icmp .ge 60, 3) := by decide +kernel
theorem dX3_digest_83 : decode cX3_digest 83 = .ok (.lload_n 1, 1) := by decide +kernel
theorem dX3_digest_84 : decode cX3_digest 84 = .ok (.ldc2_w 224, 3) := by decide +kernel
theorem dX3_digest_87 : decode cX3_digest 87 = .ok (.lmul, 1) := by decide +kernel
theorem dX3_digest_88 : decode cX3_digest 88 = .ok (.aload_n 0, 1) := by decide +kernel
theorem dX3_digest_89 : decode cX3_digest 89 = .ok (.getfield 19, 3) := by decide +kernel
theorem dX3_digest_92 : decode cX3_digest 92 = .ok (.getfield 103, 3) := by decide +kernel
theorem dX3_digest_95 : decode cX3_digest 95 = .ok (.iload_n 3, 1) := by decide +kernel
theorem dX3_digest_96 : decode cX3_digest 96 = .ok (.iaload, 1) := by decide +kernel
theorem dX3_digest_97 : decode cX3_digest 97 = .ok (.i2l, 1) := by decide +kernel
theorem dX3_digest_98 : decode cX3_digest 98 = .ok (.ladd, 1) := by decide +kernel
theorem dX3_digest_99 : decode cX3_digest 99 = .ok (.lstore_n 1, 1) := by decide +kernel
theorem dX3_digest_100 : decode cX3_digest 100 = .ok (.lload_n 1, 1) := by decide +kernel
theorem dX3_digest_101 : decode cX3_digest 101 = .ok (.ldc2_w 224, 3) := by decide +kernel
theorem dX3_digest_104 : decode cX3_digest 104 = .ok (.lmul, 1) := by decide +kernel
theorem dX3_digest_105 : decode cX3_digest 105 = .ok (.aload_n 0, 1) := by decide +kernel
theorem dX3_digest_106 : decode cX3_digest 106 = .ok (.getfield 19, 3) := by decide +kernel
theorem dX3_digest_109 : decode cX3_digest 109 = .ok (.getfield 106, 3) := by decide +kernel
theorem dX3_digest_112 : decode cX3_digest 112 = .ok (.iload_n 3, 1) := by decide +kernel
theorem dX3_digest_113 : decode cX3_digest 113 = .ok (.iaload, 1) := by decide +kernel
theorem dX3_digest_114 : decode cX3_digest 114 = .ok (.i2l, 1) := by decide +kernel
theorem dX3_digest_115 : decode cX3_digest 115 = .ok (.ladd, 1) := by decide +kernel
theorem dX3_digest_116 : decode cX3_digest 116 = .ok (.lstore_n 1, 1) := by decide +kernel
theorem dX3_digest_117 : decode cX3_digest 117 = .ok (.lload_n 1, 1) := by decide +kernel
theorem dX3_digest_118 : decode cX3_digest 118 = .ok (.ldc2_w 224, 3) := by decide +kernel
theorem dX3_digest_121 : decode cX3_digest 121 = .ok (.lmul, 1) := by decide +kernel
theorem dX3_digest_122 : decode cX3_digest 122 = .ok (.aload_n 0, 1) := by decide +kernel
theorem dX3_digest_123 : decode cX3_digest 123 = .ok (.getfield 19, 3) := by decide +kernel
theorem dX3_digest_126 : decode cX3_digest 126 = .ok (.getfield 109, 3) := by decide +kernel
theorem dX3_digest_129 : decode cX3_digest 129 = .ok (.iload_n 3, 1) := by decide +kernel
theorem dX3_digest_130 : decode cX3_digest 130 = .ok (.iaload, 1) := by decide +kernel
theorem dX3_digest_131 : decode cX3_digest 131 = .ok (.i2l, 1) := by decide +kernel
theorem dX3_digest_132 : decode cX3_digest 132 = .ok (.ladd, 1) := by decide +kernel
theorem dX3_digest_133 : decode cX3_digest 133 = .ok (.lstore_n 1, 1) := by decide +kernel
theorem dX3_digest_134 : decode cX3_digest 134 = .ok (.iinc 3 1, 3) := by decide +kernel
theorem dX3_digest_137 : decode cX3_digest 137 = .ok (.goto (-65), 3) := by decide +kernel
theorem dX3_digest_140 : decode cX3_digest 140 = .ok (.lload_n 1, 1) := by decide +kernel
theorem dX3_digest_141 : decode cX3_digest 141 = .ok (.ldc2_w 224, 3) := by decide +kernel
theorem dX3_digest_144 : decode cX3_digest 144 = .ok (.lmul, 1) := by decide +kernel
theorem dX3_digest_145 : decode cX3_digest 145 = .ok (.aload_n 0, 1) := by decide +kernel
theorem dX3_digest_146 : decode cX3_digest 146 = .ok (.getfield 26, 3) := by decide +kernel
theorem dX3_digest_149 : decode cX3_digest 149 = .ok (.getfield 134, 3) := by decide +kernel
theorem dX3_digest_152 : decode cX3_digest 152 = .ok (.i2l, 1) := by decide +kernel
theorem dX3_digest_153 : decode cX3_digest 153 = .ok (.ladd, 1) := by decide +kernel
theorem dX3_digest_154 : decode cX3_digest 154 = .ok (.lstore_n 1, 1) := by decide +kernel
theorem dX3_digest_155 : decode cX3_digest 155 = .ok (.iconst 0, 1) := by decide +kernel
theorem dX3_digest_156 : decode cX3_digest 156 = .ok (.istore_n 3, 1) := by decide +kernel
theorem dX3_digest_157 : decode cX3_digest 157 = .ok (.iload_n 3, 1) := by decide +kernel
theorem dX3_digest_158 : decode cX3_digest 158 = .ok (.aload_n 0, 1) := by decide +kernel
theorem dX3_digest_159 : decode cX3_digest 159 = .ok (.getfield 26, 3) := by decide +kernel
theorem dX3_digest_162 : decode cX3_digest 162 = .ok (.getfield 134, 3) := by decide +kernel
theorem dX3_digest_165 : decode cX3_digest 165 = .ok (.if_icmp .ge 77, 3) := by decide +kernel
theorem dX3_digest_168 : decode cX3_digest 168 = .ok (.lload_n 1, 1) := by decide +kernel
theorem dX3_digest_169 : decode cX3_digest 169 = .ok (.ldc2_w 224, 3) := by decide +kernel
theorem dX3_digest_172 : decode cX3_digest 172 = .ok (.lmul, 1) := by decide +kernel
theorem dX3_digest_173 : decode cX3_digest 173 = .ok (.aload_n 0, 1) := by decide +kernel
theorem dX3_digest_174 : decode cX3_digest 174 = .ok (.getfield 26, 3) := by decide +kernel
theorem dX3_digest_177 : decode cX3_digest 177 = .ok (.getfield 135, 3) := by decide +kernel
theorem dX3_digest_180 : decode cX3_digest 180 = .ok (.iload_n 3, 1) := by decide +kernel
theorem dX3_digest_181 : decode cX3_digest 181 = .ok (.iaload, 1) := by decide +kernel
theorem dX3_digest_182 : decode cX3_digest 182 = .ok (.i2l, 1) := by decide +kernel
theorem dX3_digest_183 : decode cX3_digest 183 = .ok (.ladd, 1) := by decide +kernel
theorem dX3_digest_184 : decode cX3_digest 184 = .ok (.lstore_n 1, 1) := by decide +kernel
theorem dX3_digest_185 : decode cX3_digest 185 = .ok (.lload_n 1, 1) := by decide +kernel
theorem dX3_digest_186 : decode cX3_digest 186 = .ok (.ldc2_w 224, 3) := by decide +kernel
theorem dX3_digest_189 : decode cX3_digest 189 = .ok (.lmul, 1) := by decide +kernel
theorem dX3_digest_190 : decode cX3_digest 190 = .ok (.aload_n 0, 1) := by decide +kernel
theorem dX3_digest_191 : decode cX3_digest 191 = .ok (.getfield 26, 3) := by decide +kernel
theorem dX3_digest_194 : decode cX3_digest 194 = .ok (.getfield 138, 3) := by decide +kernel
theorem dX3_digest_197 : decode cX3_digest 197 = .ok (.iload_n 3, 1) := by decide +kernel
theorem dX3_digest_198 : decode cX3_digest 198 = .ok (.iaload, 1) := by decide +kernel
theorem dX3_digest_199 : decode cX3_digest 199 = .ok (.i2l, 1) := by decide +kernel
theorem dX3_digest_200 : decode cX3_digest 200 = .ok (.ladd, 1) := by decide +kernel
theorem dX3_digest_201 : decode cX3_digest 201 = .ok (.lstore_n 1, 1) := by decide +kernel
theorem dX3_digest_202 : decode cX3_digest 202 = .ok (.lload_n 1, 1) := by decide +kernel
theorem dX3_digest_203 : decode cX3_digest 203 = .ok (.ldc2_w 224, 3) := by decide +kernel
theorem dX3_digest_206 : decode cX3_digest 206 = .ok (.lmul, 1) := by decide +kernel
theorem dX3_digest_207 : decode cX3_digest 207 = .ok (.aload_n 0, 1) := by decide +kernel
theorem dX3_digest_208 : decode cX3_digest 208 = .ok (.getfield 26, 3) := by decide +kernel
theorem dX3_digest_211 : decode cX3_digest 211 = .ok (.getfield 141, 3) := by decide +kernel
theorem dX3_digest_214 : decode cX3_digest 214 = .ok (.iload_n 3, 1) := by decide +kernel
theorem dX3_digest_215 : decode cX3_digest 215 = .ok (.iaload, 1) := by decide +kernel
theorem dX3_digest_216 : decode cX3_digest 216 = .ok (.i2l, 1) := by decide +kernel
theorem dX3_digest_217 : decode cX3_digest 217 = .ok (.ladd, 1) := by decide +kernel
theorem dX3_digest_218 : decode cX3_digest 218 = .ok (.lstore_n 1, 1) := by decide +kernel
theorem dX3_digest_219 : decode cX3_digest 219 = .ok (.lload_n 1, 1) := by decide +kernel
theorem dX3_digest_220 : decode cX3_digest 220 = .ok (.ldc2_w 224, 3) := by decide +kernel
theorem dX3_digest_223 : decode cX3_digest 223 = .ok (.lmul, 1) := by decide +kernel
theorem dX3_digest_224 : decode cX3_digest 224 = .ok (.aload_n 0, 1) := by decide +kernel
theorem dX3_digest_225 : decode cX3_digest 225 = .ok (.getfield 26, 3) := by decide +kernel
theorem dX3_digest_228 : decode cX3_digest 228 = .ok (.getfield 143, 3) := by decide +kernel
theorem dX3_digest_231 : decode cX3_digest 231 = .ok (.iload_n 3, 1) := by decide +kernel
theorem dX3_digest_232 : decode cX3_digest 232 = .ok (.iaload, 1) := by decide +kernel
theorem dX3_digest_233 : decode cX3_digest 233 = .ok (.i2l, 1) := by decide +kernel
theorem dX3_digest_234 : decode cX3_digest 234 = .ok (.ladd, 1) := by decide +kernel
theorem dX3_digest_235 : decode cX3_digest 235 = .ok (.lstore_n 1, 1) := by decide +kernel
theorem dX3_digest_236 : decode cX3_digest 236 = .ok (.iinc 3 1, 3) := by decide +kernel
theorem dX3_digest_239 : decode cX3_digest 239 = .ok (.goto (-82), 3) := by decide +kernel
theorem dX3_digest_242 : decode cX3_digest 242 = .ok (.lload_n 1, 1) := by decide +kernel
theorem dX3_digest_243 : decode cX3_digest 243 = .ok (.ldc2_w 224, 3) := by decide +kernel
theorem dX3_digest_246 : decode cX3_digest 246 = .ok (.lmul, 1) := by decide +kernel
theorem dX3_digest_247 : decode cX3_digest 247 = .ok (.aload_n 0, 1) := by decide +kernel
theorem dX3_digest_248 : decode cX3_digest 248 = .ok (.getfield 196, 3) := by decide +kernel
theorem dX3_digest_251 : decode cX3_digest 251 = .ok (.i2l, 1) := by decide +kernel
theorem dX3_digest_252 : decode cX3_digest 252 = .ok (.ladd, 1) := by decide +kernel
theorem dX3_digest_253 : decode cX3_digest 253 = .ok (.lstore_n 1, 1) := by decide +kernel
theorem dX3_digest_254 : decode cX3_digest 254 = .ok (.lload_n 1, 1) := by decide +kernel
theorem dX3_digest_255 : decode cX3_digest 255 = .ok (.ldc2_w 224, 3) := by decide +kernel
theorem dX3_digest_258 : decode cX3_digest 258 = .ok (.lmul, 1) := by decide +kernel
theorem dX3_digest_259 : decode cX3_digest 259 = .ok (.aload_n 0, 1) := by decide +kernel
theorem dX3_digest_260 : decode cX3_digest 260 = .ok (.getfield 199, 3) := by decide +kernel
theorem dX3_digest_263 : decode cX3_digest 263 = .ok (.i2l, 1) := by decide +kernel
theorem dX3_digest_264 : decode cX3_digest 264 = .ok (.ladd, 1) := by decide +kernel
theorem dX3_digest_265 : decode cX3_digest 265 = .ok (.lstore_n 1, 1) := by decide +kernel
theorem dX3_digest_266 : decode cX3_digest 266 = .ok (.lload_n 1, 1) := by decide +kernel
theorem dX3_digest_267 : decode cX3_digest 267 = .ok (.ldc2_w 224, 3) := by decide +kernel
theorem dX3_digest_270 : decode cX3_digest 270 = .ok (.lmul, 1) := by decide +kernel
theorem dX3_digest_271 : decode cX3_digest 271 = .ok (.aload_n 0, 1) := by decide +kernel
theorem dX3_digest_272 : decode cX3_digest 272 = .ok (.getfield 53, 3) := by decide +kernel
theorem dX3_digest_275 : decode cX3_digest 275 = .ok (.i2l, 1) := by decide +kernel
theorem dX3_digest_276 : decode cX3_digest 276 = .ok (.ladd, 1) := by decide +kernel
theorem dX3_digest_277 : decode cX3_digest 277 = .ok (.lreturn, 1) := by decide +kernel
set_option maxRecDepth 20000 in
theorem ggX3_requireKind_X1_has : GoodIn wsX3_requireKind wsX1_has := goodIn_r _ [7, 8, 24, 25, 26] (by decide +kernel) (by decide +kernel)
set_option maxRecDepth 20000 in
theorem gX3_requireKind_X1_has_n229 : GoodIn wsX3_requireKind (wsX1_has) := ggX3_requireKind_X1_has
theorem dX3_requireKind_0 : decode cX3_requireKind 0 = .ok (.aload_n 0, 1) := by decide +kernel
theorem dX3_requireKind_1 : decode cX3_requireKind 1 = .ok (.getfield 12, 3) := by decide +kernel
theorem dX3_requireKind_4 : decode cX3_requireKind 4 = .ok (.iload_n 1, 1) := by decide +kernel
theorem dX3_requireKind_5 : decode cX3_requireKind 5 = .ok (.invokevirtual 229, 3) := by decide +kernel
theorem dX3_requireKind_8 : decode cX3_requireKind 8 = .ok (.ifCond .ne 13, 3) := by decide +kernel
theorem dX3_requireKind_11 : decode cX3_requireKind 11 = .ok (.new 112, 3) := by decide +kernel
theorem dX3_requireKind_14 : decode cX3_requireKind 14 = .ok (.dup, 1) := by decide +kernel
theorem dX3_requireKind_15 : decode cX3_requireKind 15 = .ok (.ldc 230, 2) := by decide +kernel
theorem dX3_requireKind_17 : decode cX3_requireKind 17 = .ok (.invokespecial 116, 3) := by decide +kernel
theorem dX3_requireKind_20 : decode cX3_requireKind 20 = .ok (.athrow, 1) := by decide +kernel
theorem dX3_requireKind_21 : decode cX3_requireKind 21 = .ok (.return_, 1) := by decide +kernel
set_option maxRecDepth 20000 in
theorem ggX3_requireKindSet_X1_hasAll : GoodIn wsX3_requireKindSet wsX1_hasAll := goodIn_r _ [7, 8, 24, 25, 26] (by decide +kernel) (by decide +kernel)
set_option maxRecDepth 20000 in
theorem gX3_requireKindSet_X1_hasAll_n232 : GoodIn wsX3_requireKindSet (wsX1_hasAll) := ggX3_requireKindSet_X1_hasAll
theorem dX3_requireKindSet_0 : decode cX3_requireKindSet 0 = .ok (.aload_n 0, 1) := by decide +kernel
theorem dX3_requireKindSet_1 : decode cX3_requireKindSet 1 = .ok (.getfield 12, 3) := by decide +kernel
theorem dX3_requireKindSet_4 : decode cX3_requireKindSet 4 = .ok (.iload_n 1, 1) := by decide +kernel
theorem dX3_requireKindSet_5 : decode cX3_requireKindSet 5 = .ok (.invokevirtual 232, 3) := by decide +kernel
theorem dX3_requireKindSet_8 : decode cX3_requireKindSet 8 = .ok (.ifCond .ne 13, 3) := by decide +kernel
theorem dX3_requireKindSet_11 : decode cX3_requireKindSet 11 = .ok (.new 117, 3) := by decide +kernel
theorem dX3_requireKindSet_14 : decode cX3_requireKindSet 14 = .ok (.dup, 1) := by decide +kernel
theorem dX3_requireKindSet_15 : decode cX3_requireKindSet 15 = .ok (.ldc 235, 2) := by decide +kernel
theorem dX3_requireKindSet_17 : decode cX3_requireKindSet 17 = .ok (.invokespecial 121, 3) := by decide +kernel
theorem dX3_requireKindSet_20 : decode cX3_requireKindSet 20 = .ok (.athrow, 1) := by decide +kernel
theorem dX3_requireKindSet_21 : decode cX3_requireKindSet 21 = .ok (.return_, 1) := by decide +kernel
theorem dX3_requireTarget_0 : decode cX3_requireTarget 0 = .ok (.iload_n 1, 1) := by decide +kernel
theorem dX3_requireTarget_1 : decode cX3_requireTarget 1 = .ok (.ifCond .lt 9, 3) := by decide +kernel
theorem dX3_requireTarget_4 : decode cX3_requireTarget 4 = .ok (.iload_n 1, 1) := by decide +kernel
theorem dX3_requireTarget_5 : decode cX3_requireTarget 5 = .ok (.bipush 48, 2) := by decide +kernel
theorem dX3_requireTarget_7 : decode cX3_requireTarget 7 = .ok (.if_icmp .lt 13, 3) := by decide +kernel
theorem dX3_requireTarget_10 : decode cX3_requireTarget 10 = .ok (.new 117, 3) := by decide +kernel
theorem dX3_requireTarget_13 : decode cX3_requireTarget 13 = .ok (.dup, 1) := by decide +kernel
theorem dX3_requireTarget_14 : decode cX3_requireTarget 14 = .ok (.ldc 237, 2) := by decide +kernel
theorem dX3_requireTarget_16 : decode cX3_requireTarget 16 = .ok (.invokespecial 121, 3) := by decide +kernel
theorem dX3_requireTarget_19 : decode cX3_requireTarget 19 = .ok (.athrow, 1) := by decide +kernel
theorem dX3_requireTarget_20 : decode cX3_requireTarget 20 = .ok (.return_, 1) := by decide +kernel
set_option maxRecDepth 20000 in
theorem ggX3_requireInstruction_X0_has : GoodIn wsX3_requireInstruction wsX0_has := goodIn_r _ [7, 8, 24, 25, 26, 27] (by decide +kernel) (by decide +kernel)
set_option maxRecDepth 20000 in
theorem gX3_requireInstruction_X0_has_n208 : GoodIn wsX3_requireInstruction (wsX0_has) := ggX3_requireInstruction_X0_has
theorem dX3_requireInstruction_0 : decode cX3_requireInstruction 0 = .ok (.aload_n 0, 1) := by decide +kernel
theorem dX3_requireInstruction_1 : decode cX3_requireInstruction 1 = .ok (.getfield 19, 3) := by decide +kernel
theorem dX3_requireInstruction_4 : decode cX3_requireInstruction 4 = .ok (.iload_n 1, 1) := by decide +kernel
theorem dX3_requireInstruction_5 : decode cX3_requireInstruction 5 = .ok (.invokevirtual 208, 3) := by decide +kernel
theorem dX3_requireInstruction_8 : decode cX3_requireInstruction 8 = .ok (.ifCond .ne 13, 3) := by decide +kernel
theorem dX3_requireInstruction_11 : decode cX3_requireInstruction 11 = .ok (.new 112, 3) := by decide +kernel
theorem dX3_requireInstruction_14 : decode cX3_requireInstruction 14 = .ok (.dup, 1) := by decide +kernel
theorem dX3_requireInstruction_15 : decode cX3_requireInstruction 15 = .ok (.ldc 239, 2) := by decide +kernel
theorem dX3_requireInstruction_17 : decode cX3_requireInstruction 17 = .ok (.invokespecial 116, 3) := by decide +kernel
theorem dX3_requireInstruction_20 : decode cX3_requireInstruction 20 = .ok (.athrow, 1) := by decide +kernel
theorem dX3_requireInstruction_21 : decode cX3_requireInstruction 21 = .ok (.return_, 1) := by decide +kernel
set_option maxRecDepth 20000 in
theorem ggX3_requireEntry_X2_has : GoodIn wsX3_requireEntry wsX2_has := goodIn_r _ [7, 8, 24, 25, 26, 27, 28] (by decide +kernel) (by decide +kernel)
set_option maxRecDepth 20000 in
theorem gX3_requireEntry_X2_has_n241 : GoodIn wsX3_requireEntry (wsX2_has) := ggX3_requireEntry_X2_has
theorem dX3_requireEntry_0 : decode cX3_requireEntry 0 = .ok (.aload_n 0, 1) := by decide +kernel
theorem dX3_requireEntry_1 : decode cX3_requireEntry 1 = .ok (.getfield 26, 3) := by decide +kernel
theorem dX3_requireEntry_4 : decode cX3_requireEntry 4 = .ok (.iload_n 1, 1) := by decide +kernel
theorem dX3_requireEntry_5 : decode cX3_requireEntry 5 = .ok (.invokevirtual 241, 3) := by decide +kernel
theorem dX3_requireEntry_8 : decode cX3_requireEntry 8 = .ok (.ifCond .ne 13, 3) := by decide +kernel
theorem dX3_requireEntry_11 : decode cX3_requireEntry 11 = .ok (.new 112, 3) := by decide +kernel
theorem dX3_requireEntry_14 : decode cX3_requireEntry 14 = .ok (.dup, 1) := by decide +kernel
theorem dX3_requireEntry_15 : decode cX3_requireEntry 15 = .ok (.ldc 242, 2) := by decide +kernel
theorem dX3_requireEntry_17 : decode cX3_requireEntry 17 = .ok (.invokespecial 116, 3) := by decide +kernel
theorem dX3_requireEntry_20 : decode cX3_requireEntry 20 = .ok (.athrow, 1) := by decide +kernel
theorem dX3_requireEntry_21 : decode cX3_requireEntry 21 = .ok (.return_, 1) := by decide +kernel
set_option maxRecDepth 20000 in
theorem ggX3_requireRoomForCode_X0_isFull : GoodIn wsX3_requireRoomForCode wsX0_isFull := goodIn_r _ [7, 8, 24, 25, 26, 27] (by decide +kernel) (by decide +kernel)
set_option maxRecDepth 20000 in
theorem gX3_requireRoomForCode_X0_isFull_n244 : GoodIn wsX3_requireRoomForCode (wsX0_isFull) := ggX3_requireRoomForCode_X0_isFull
theorem dX3_requireRoomForCode_0 : decode cX3_requireRoomForCode 0 = .ok (.aload_n 0, 1) := by decide +kernel
theorem dX3_requireRoomForCode_1 : decode cX3_requireRoomForCode 1 = .ok (.getfield 19, 3) := by decide +kernel
theorem dX3_requireRoomForCode_4 : decode cX3_requireRoomForCode 4 = .ok (.invokevirtual 244, 3) := by decide +kernel
theorem dX3_requireRoomForCode_7 : decode cX3_requireRoomForCode 7 = .ok (.ifCond .eq 13, 3) := by decide +kernel
theorem dX3_requireRoomForCode_10 : decode cX3_requireRoomForCode 10 = .ok (.new 65, 3) := by decide +kernel
theorem dX3_requireRoomForCode_13 : decode cX3_requireRoomForCode 13 = .ok (.dup, 1) := by decide +kernel
theorem dX3_requireRoomForCode_14 : decode cX3_requireRoomForCode 14 = .ok (.ldc 245, 2) := by decide +kernel
theorem dX3_requireRoomForCode_16 : decode cX3_requireRoomForCode 16 = .ok (.invokespecial 69, 3) := by decide +kernel
theorem dX3_requireRoomForCode_19 : decode cX3_requireRoomForCode 19 = .ok (.athrow, 1) := by decide +kernel
theorem dX3_requireRoomForCode_20 : decode cX3_requireRoomForCode 20 = .ok (.return_, 1) := by decide +kernel
set_option maxRecDepth 20000 in
theorem ggX3_findReached_X3_reach : GoodIn wsX3_findReached wsX3_reach := goodIn_r _ [8, 9, 1, 3, 2, 10, 11, 12, 13, 14, 38, 39, 40, 41, 42, 43, 44, 45, 46, 47, 48, 49, 50, 51, 52, 53, 54, 55, 56] (by decide +kernel) (by decide +kernel)
set_option maxRecDepth 20000 in
theorem gX3_findReached_X3_reach : GoodIn wsX3_findReached (wsV RX3 250 RX3 yX3_reach wsX3_reach) := goodIn_app (goodIn_of _ (by decide +kernel)) ggX3_findReached_X3_reach
set_option maxRecDepth 20000 in
theorem ggX3_findReached_X3_reachFrom : GoodIn wsX3_findReached wsX3_reachFrom := goodIn_r _ [18, 9, 19, 20, 4, 5, 6, 7, 8, 1, 3, 2, 10, 11, 12, 13, 14, 21, 22, 23, 24, 25, 26, 27, 28, 29, 30, 31, 32, 33, 34, 35, 36, 37, 38, 39, 40, 41, 42, 43, 44, 45, 46, 47, 48, 49, 50, 51, 52, 53, 54, 55, 56, 57, 58, 59, 60, 61, 62, 63, 64] (by decide +kernel) (by decide +kernel)
set_option maxRecDepth 20000 in
theorem gX3_findReached_X3_reachFrom : GoodIn wsX3_findReached (wsV RX3 253 RX3 yX3_reachFrom wsX3_reachFrom) := goodIn_app (goodIn_of _ (by decide +kernel)) ggX3_findReached_X3_reachFrom
theorem dX3_findReached_0 : decode cX3_findReached 0 = .ok (.iconst 0, 1) := by decide +kernel
theorem dX3_findReached_1 : decode cX3_findReached 1 = .ok (.istore_n 1, 1) := by decide +kernel
theorem dX3_findReached_2 : decode cX3_findReached 2 = .ok (.iload_n 1, 1) := by decide +kernel
theorem dX3_findReached_3 : decode cX3_findReached 3 = .ok (.bipush 48, 2) := by decide +kernel
theorem dX3_findReached_5 : decode cX3_findReached 5 = .ok (.if_icmp .ge 16, 3) := by decide +kernel
theorem dX3_findReached_8 : decode cX3_findReached 8 = .ok (.aload_n 0, 1) := by decide +kernel
theorem dX3_findReached_9 : decode cX3_findReached 9 = .ok (.getfield 33, 3) := by decide +kernel
theorem dX3_findReached_12 : decode cX3_findReached 12 = .ok (.iload_n 1, 1) := by decide +kernel
theorem dX3_findReached_13 : decode cX3_findReached 13 = .ok (.iconst 0, 1) := by decide +kernel
theorem dX3_findReached_14 : decode cX3_findReached 14 = .ok (.bastore, 1) := by decide +kernel
theorem dX3_findReached_15 : decode cX3_findReached 15 = .ok (.iinc 1 1, 3) := by decide +kernel
theorem dX3_findReached_18 : decode cX3_findReached 18 = .ok (.goto (-16), 3) := by decide +kernel
theorem dX3_findReached_21 : decode cX3_findReached 21 = .ok (.aload_n 0, 1) := by decide +kernel
theorem dX3_findReached_22 : decode cX3_findReached 22 = .ok (.iconst 0, 1) := by decide +kernel
theorem dX3_findReached_23 : decode cX3_findReached 23 = .ok (.putfield 247, 3) := by decide +kernel
theorem dX3_findReached_26 : decode cX3_findReached 26 = .ok (.aload_n 0, 1) := by decide +kernel
theorem dX3_findReached_27 : decode cX3_findReached 27 = .ok (.iconst 0, 1) := by decide +kernel
theorem dX3_findReached_28 : decode cX3_findReached 28 = .ok (.invokevirtual 250, 3) := by decide +kernel
theorem dX3_findReached_31 : decode cX3_findReached 31 = .ok (.iconst 0, 1) := by decide +kernel
theorem dX3_findReached_32 : decode cX3_findReached 32 = .ok (.istore_n 1, 1) := by decide +kernel
theorem dX3_findReached_33 : decode cX3_findReached 33 = .ok (.iload_n 1, 1) := by decide +kernel
theorem dX3_findReached_34 : decode cX3_findReached 34 = .ok (.aload_n 0, 1) := by decide +kernel
theorem dX3_findReached_35 : decode cX3_findReached 35 = .ok (.getfield 247, 3) := by decide +kernel
theorem dX3_findReached_38 : decode cX3_findReached 38 = .ok (.if_icmp .ge 25, 3) := by decide +kernel
theorem dX3_findReached_41 : decode cX3_findReached 41 = .ok (.iload_n 1, 1) := by decide +kernel
theorem dX3_findReached_42 : decode cX3_findReached 42 = .ok (.bipush 48, 2) := by decide +kernel
theorem dX3_findReached_44 : decode cX3_findReached 44 = .ok (.if_icmp .ge 19, 3) := by decide +kernel
theorem dX3_findReached_47 : decode cX3_findReached 47 = .ok (.aload_n 0, 1) := by decide +kernel
theorem dX3_findReached_48 : decode cX3_findReached 48 = .ok (.aload_n 0, 1) := by decide +kernel
theorem dX3_findReached_49 : decode cX3_findReached 49 = .ok (.getfield 37, 3) := by decide +kernel
theorem dX3_findReached_52 : decode cX3_findReached 52 = .ok (.iload_n 1, 1) := by decide +kernel
theorem dX3_findReached_53 : decode cX3_findReached 53 = .ok (.iaload, 1) := by decide +kernel
theorem dX3_findReached_54 : decode cX3_findReached 54 = .ok (.invokevirtual 253, 3) := by decide +kernel
theorem dX3_findReached_57 : decode cX3_findReached 57 = .ok (.iinc 1 1, 3) := by decide +kernel
theorem dX3_findReached_60 : decode cX3_findReached 60 = .ok (.goto (-27), 3) := by decide +kernel
theorem dX3_findReached_63 : decode cX3_findReached 63 = .ok (.return_, 1) := by decide +kernel
set_option maxRecDepth 20000 in
theorem ggX3_reach_X0_has : GoodIn wsX3_reach wsX0_has := goodIn_r _ [8, 9, 25, 26, 27, 28] (by decide +kernel) (by decide +kernel)
set_option maxRecDepth 20000 in
theorem gX3_reach_X0_has_n208 : GoodIn wsX3_reach (wsX0_has) := ggX3_reach_X0_has
theorem dX3_reach_0 : decode cX3_reach 0 = .ok (.aload_n 0, 1) := by decide +kernel
theorem dX3_reach_1 : decode cX3_reach 1 = .ok (.getfield 19, 3) := by decide +kernel
theorem dX3_reach_4 : decode cX3_reach 4 = .ok (.iload_n 1, 1) := by decide +kernel
theorem dX3_reach_5 : decode cX3_reach 5 = .ok (.invokevirtual 208, 3) := by decide +kernel
theorem dX3_reach_8 : decode cX3_reach 8 = .ok (.ifCond .eq 39, 3) := by decide +kernel
theorem dX3_reach_11 : decode cX3_reach 11 = .ok (.aload_n 0, 1) := by decide +kernel
theorem dX3_reach_12 : decode cX3_reach 12 = .ok (.getfield 33, 3) := by decide +kernel
theorem dX3_reach_15 : decode cX3_reach 15 = .ok (.iload_n 1, 1) := by decide +kernel
theorem dX3_reach_16 : decode cX3_reach 16 = .ok (.baload, 1) := by decide +kernel
theorem dX3_reach_17 : decode cX3_reach 17 = .ok (.ifCond .ne 30, 3) := by decide +kernel
theorem dX3_reach_20 : decode cX3_reach 20 = .ok (.aload_n 0, 1) := by decide +kernel
theorem dX3_reach_21 : decode cX3_reach 21 = .ok (.getfield 33, 3) := by decide +kernel
theorem dX3_reach_24 : decode cX3_reach 24 = .ok (.iload_n 1, 1) := by decide +kernel
theorem dX3_reach_25 : decode cX3_reach 25 = .ok (.iconst 1, 1) := by decide +kernel
theorem dX3_reach_26 : decode cX3_reach 26 = .ok (.bastore, 1) := by decide +kernel
theorem dX3_reach_27 : decode cX3_reach 27 = .ok (.aload_n 0, 1) := by decide +kernel
theorem dX3_reach_28 : decode cX3_reach 28 = .ok (.getfield 37, 3) := by decide +kernel
theorem dX3_reach_31 : decode cX3_reach 31 = .ok (.aload_n 0, 1) := by decide +kernel
theorem dX3_reach_32 : decode cX3_reach 32 = .ok (.getfield 247, 3) := by decide +kernel
theorem dX3_reach_35 : decode cX3_reach 35 = .ok (.iload_n 1, 1) := by decide +kernel
theorem dX3_reach_36 : decode cX3_reach 36 = .ok (.iastore, 1) := by decide +kernel
theorem dX3_reach_37 : decode cX3_reach 37 = .ok (.aload_n 0, 1) := by decide +kernel
theorem dX3_reach_38 : decode cX3_reach 38 = .ok (.dup, 1) := by decide +kernel
theorem dX3_reach_39 : decode cX3_reach 39 = .ok (.getfield 247, 3) := by decide +kernel
theorem dX3_reach_42 : decode cX3_reach 42 = .ok (.iconst 1, 1) := by decide +kernel
theorem dX3_reach_43 : decode cX3_reach 43 = .ok (.iadd, 1) := by decide +kernel
theorem dX3_reach_44 : decode cX3_reach 44 = .ok (.putfield 247, 3) := by decide +kernel
theorem dX3_reach_47 : decode cX3_reach 47 = .ok (.return_, 1) := by decide +kernel
set_option maxRecDepth 20000 in
theorem ggX3_reachFrom_X3_reach : GoodIn wsX3_reachFrom wsX3_reach := goodIn_r _ [8, 1, 9, 10, 11, 12, 13, 14, 15, 16, 34, 35, 36, 37, 38, 39, 40, 41, 42, 43, 44, 45, 46, 47, 48, 49, 50, 51, 52] (by decide +kernel) (by decide +kernel)
set_option maxRecDepth 20000 in
theorem gX3_reachFrom_X3_reach : GoodIn wsX3_reachFrom (wsV RX3 250 RX3 yX3_reach wsX3_reach) := goodIn_app (goodIn_of _ (by decide +kernel)) ggX3_reachFrom_X3_reach
set_option maxRecDepth 20000 in
theorem ggX3_reachFrom_X0_canThrow : GoodIn wsX3_reachFrom wsX0_canThrow := goodIn_r _ [19, 20, 49, 50, 51, 52] (by decide +kernel) (by decide +kernel)
set_option maxRecDepth 20000 in
theorem gX3_reachFrom_X0_canThrow_n256 : GoodIn wsX3_reachFrom (wsX0_canThrow) := ggX3_reachFrom_X0_canThrow
set_option maxRecDepth 20000 in
theorem ggX3_reachFrom_X2_goal : GoodIn wsX3_reachFrom wsX2_goal := goodIn_r _ [24, 25, 26, 27, 28, 22, 29, 30, 31, 32, 33, 56, 57, 58, 59, 60, 53, 54, 55] (by decide +kernel) (by decide +kernel)
set_option maxRecDepth 20000 in
theorem gX3_reachFrom_X2_goal_n259 : GoodIn wsX3_reachFrom (wsX2_goal) := ggX3_reachFrom_X2_goal
theorem dX3_reachFrom_0 : decode cX3_reachFrom 0 = .ok (.aload_n 0, 1) := by decide +kernel
theorem dX3_reachFrom_1 : decode cX3_reachFrom 1 = .ok (.getfield 19, 3) := by decide +kernel
theorem dX3_reachFrom_4 : decode cX3_reachFrom 4 = .ok (.getfield 103, 3) := by decide +kernel
theorem dX3_reachFrom_7 : decode cX3_reachFrom 7 = .ok (.iload_n 1, 1) := by decide +kernel
theorem dX3_reachFrom_8 : decode cX3_reachFrom 8 = .ok (.iaload, 1) := by decide +kernel
theorem dX3_reachFrom_9 : decode cX3_reachFrom 9 = .ok (.istore_n 2, 1) := by decide +kernel
theorem dX3_reachFrom_10 : decode cX3_reachFrom 10 = .ok (.iload_n 2, 1) := by decide +kernel
theorem dX3_reachFrom_11 : decode cX3_reachFrom 11 = .ok (.ifCond .eq 8, 3) := by decide +kernel
theorem dX3_reachFrom_14 : decode cX3_reachFrom 14 = .ok (.iload_n 2, 1) := by decide +kernel
theorem dX3_reachFrom_15 : decode cX3_reachFrom 15 = .ok (.iconst 2, 1) := by decide +kernel
theorem dX3_reachFrom_16 : decode cX3_reachFrom 16 = .ok (.if_icmp .ne 10, 3) := by decide +kernel
theorem dX3_reachFrom_19 : decode cX3_reachFrom 19 = .ok (.aload_n 0, 1) := by decide +kernel
theorem dX3_reachFrom_20 : decode cX3_reachFrom 20 = .ok (.iload_n 1, 1) := by decide +kernel
theorem dX3_reachFrom_21 : decode cX3_reachFrom 21 = .ok (.iconst 1, 1) := by decide +kernel
theorem dX3_reachFrom_22 : decode cX3_reachFrom 22 = .ok (.iadd, 1) := by decide +kernel
theorem dX3_reachFrom_23 : decode cX3_reachFrom 23 = .ok (.invokevirtual 250, 3) := by decide +kernel
theorem dX3_reachFrom_26 : decode cX3_reachFrom 26 = .ok (.iload_n 2, 1) := by decide +kernel
theorem dX3_reachFrom_27 : decode cX3_reachFrom 27 = .ok (.iconst 1, 1) := by decide +kernel
theorem dX3_reachFrom_28 : decode cX3_reachFrom 28 = .ok (.if_icmp .eq 8, 3) := by decide +kernel
theorem dX3_reachFrom_31 : decode cX3_reachFrom 31 = .ok (.iload_n 2, 1) := by decide +kernel
theorem dX3_reachFrom_32 : decode cX3_reachFrom 32 = .ok (.iconst 2, 1) := by decide +kernel
theorem dX3_reachFrom_33 : decode cX3_reachFrom 33 = .ok (.if_icmp .ne 16, 3) := by decide +kernel
theorem dX3_reachFrom_36 : decode cX3_reachFrom 36 = .ok (.aload_n 0, 1) := by decide +kernel
theorem dX3_reachFrom_37 : decode cX3_reachFrom 37 = .ok (.aload_n 0, 1) := by decide +kernel
theorem dX3_reachFrom_38 : decode cX3_reachFrom 38 = .ok (.getfield 19, 3) := by decide +kernel
theorem dX3_reachFrom_41 : decode cX3_reachFrom 41 = .ok (.getfield 109, 3) := by decide +kernel
theorem dX3_reachFrom_44 : decode cX3_reachFrom 44 = .ok (.iload_n 1, 1) := by decide +kernel
theorem dX3_reachFrom_45 : decode cX3_reachFrom 45 = .ok (.iaload, 1) := by decide +kernel
theorem dX3_reachFrom_46 : decode cX3_reachFrom 46 = .ok (.invokevirtual 250, 3) := by decide +kernel
theorem dX3_reachFrom_49 : decode cX3_reachFrom 49 = .ok (.iconst 0, 1) := by decide +kernel
theorem dX3_reachFrom_50 : decode cX3_reachFrom 50 = .ok (.istore_n 3, 1) := by decide +kernel
theorem dX3_reachFrom_51 : decode cX3_reachFrom 51 = .ok (.iload_n 3, 1) := by decide +kernel
theorem dX3_reachFrom_52 : decode cX3_reachFrom 52 = .ok (.aload_n 0, 1) := by decide +kernel
theorem dX3_reachFrom_53 : decode cX3_reachFrom 53 = .ok (.getfield 12, 3) := by decide +kernel
theorem dX3_reachFrom_56 : decode cX3_reachFrom 56 = .ok (.getfield 76, 3) := by decide +kernel
theorem dX3_reachFrom_59 : decode cX3_reachFrom 59 = .ok (.if_icmp .ge 38, 3) := by decide +kernel
theorem dX3_reachFrom_62 : decode cX3_reachFrom 62 = .ok (.aload_n 0, 1) := by decide +kernel
theorem dX3_reachFrom_63 : decode cX3_reachFrom 63 = .ok (.getfield 19, 3) := by decide +kernel
theorem dX3_reachFrom_66 : decode cX3_reachFrom 66 = .ok (.iload_n 1, 1) := by decide +kernel
theorem dX3_reachFrom_67 : decode cX3_reachFrom 67 = .ok (.iload_n 3, 1) := by decide +kernel
theorem dX3_reachFrom_68 : decode cX3_reachFrom 68 = .ok (.invokevirtual 256, 3) := by decide +kernel
theorem dX3_reachFrom_71 : decode cX3_reachFrom 71 = .ok (.ifCond .eq 20, 3) := by decide +kernel
theorem dX3_reachFrom_74 : decode cX3_reachFrom 74 = .ok (.aload_n 0, 1) := by decide +kernel
theorem dX3_reachFrom_75 : decode cX3_reachFrom 75 = .ok (.aload_n 0, 1) := by decide +kernel
theorem dX3_reachFrom_76 : decode cX3_reachFrom 76 = .ok (.getfield 26, 3) := by decide +kernel
theorem dX3_reachFrom_79 : decode cX3_reachFrom 79 = .ok (.aload_n 0, 1) := by decide +kernel
theorem dX3_reachFrom_80 : decode cX3_reachFrom 80 = .ok (.getfield 12, 3) := by decide +kernel
theorem dX3_reachFrom_83 : decode cX3_reachFrom 83 = .ok (.iload_n 1, 1) := by decide +kernel
theorem dX3_reachFrom_84 : decode cX3_reachFrom 84 = .ok (.iload_n 3, 1) := by decide +kernel
theorem dX3_reachFrom_85 : decode cX3_reachFrom 85 = .ok (.invokevirtual 259, 3) := by decide +kernel
theorem dX3_reachFrom_88 : decode cX3_reachFrom 88 = .ok (.invokevirtual 250, 3) := by decide +kernel
theorem dX3_reachFrom_91 : decode cX3_reachFrom 91 = .ok (.iinc 3 1, 3) := by decide +kernel
theorem dX3_reachFrom_94 : decode cX3_reachFrom 94 = .ok (.goto (-43), 3) := by decide +kernel
theorem dX3_reachFrom_97 : decode cX3_reachFrom 97 = .ok (.return_, 1) := by decide +kernel
set_option maxRecDepth 20000 in
theorem ggX3_isThrown_X0_canThrow : GoodIn wsX3_isThrown wsX0_canThrow := goodIn_r _ [6, 7, 23, 24, 25, 26] (by decide +kernel) (by decide +kernel)
set_option maxRecDepth 20000 in
theorem gX3_isThrown_X0_canThrow_n256 : GoodIn wsX3_isThrown (wsX0_canThrow) := ggX3_isThrown_X0_canThrow
theorem dX3_isThrown_0 : decode cX3_isThrown 0 = .ok (.aload_n 0, 1) := by decide +kernel
theorem dX3_isThrown_1 : decode cX3_isThrown 1 = .ok (.getfield 33, 3) := by decide +kernel
theorem dX3_isThrown_4 : decode cX3_isThrown 4 = .ok (.iload_n 1, 1) := by decide +kernel
theorem dX3_isThrown_5 : decode cX3_isThrown 5 = .ok (.baload, 1) := by decide +kernel
theorem dX3_isThrown_6 : decode cX3_isThrown 6 = .ok (.ifCond .eq 19, 3) := by decide +kernel
theorem dX3_isThrown_9 : decode cX3_isThrown 9 = .ok (.aload_n 0, 1) := by decide +kernel
theorem dX3_isThrown_10 : decode cX3_isThrown 10 = .ok (.getfield 19, 3) := by decide +kernel
theorem dX3_isThrown_13 : decode cX3_isThrown 13 = .ok (.iload_n 1, 1) := by decide +kernel
theorem dX3_isThrown_14 : decode cX3_isThrown 14 = .ok (.iload_n 2, 1) := by decide +kernel
theorem dX3_isThrown_15 : decode cX3_isThrown 15 = .ok (.invokevirtual 256, 3) := by decide +kernel
theorem dX3_isThrown_18 : decode cX3_isThrown 18 = .ok (.ifCond .eq 7, 3) := by decide +kernel
theorem dX3_isThrown_21 : decode cX3_isThrown 21 = .ok (.iconst 1, 1) := by decide +kernel
theorem dX3_isThrown_22 : decode cX3_isThrown 22 = .ok (.goto 4, 3) := by decide +kernel
theorem dX3_isThrown_25 : decode cX3_isThrown 25 = .ok (.iconst 0, 1) := by decide +kernel
theorem dX3_isThrown_26 : decode cX3_isThrown 26 = .ok (.ireturn, 1) := by decide +kernel
set_option maxRecDepth 20000 in
theorem ggX3_findUses_X3_findReached : GoodIn wsX3_findUses wsX3_findReached := goodIn_r _ [9, 10, 11, 12, 13, 14, 15, 8, 16, 2, 17, 18, 19, 20, 21, 22, 23, 24, 25, 3, 4, 26, 27, 28, 29, 30, 31, 32, 33, 34, 35, 36, 37, 38, 39, 40, 41, 42, 56, 57, 58, 59, 60, 61, 62, 63, 64, 65, 66, 67, 68, 69, 70, 71, 72, 73, 74, 75, 76, 77, 78, 79, 80, 81, 82] (by decide +kernel) (by decide +kernel)
set_option maxRecDepth 20000 in
theorem gX3_findUses_X3_findReached : GoodIn wsX3_findUses (wsV RX3 150 RX3 yX3_findReached wsX3_findReached) := goodIn_app (goodIn_of _ (by decide +kernel)) ggX3_findUses_X3_findReached
set_option maxRecDepth 20000 in
theorem ggX3_findUses_X3_isThrown : GoodIn wsX3_findUses wsX3_isThrown := goodIn_r _ [46, 10, 2, 26, 18, 27, 28, 29, 56, 57, 58, 59, 60, 61, 62, 63, 64, 65, 66, 67, 68, 69, 70, 71, 72, 73, 74] (by decide +kernel) (by decide +kernel)
set_option maxRecDepth 20000 in
theorem gX3_findUses_X3_isThrown : GoodIn wsX3_findUses (wsV RX3 160 RX3 yX3_isThrown wsX3_isThrown) := goodIn_app (goodIn_of _ (by decide +kernel)) ggX3_findUses_X3_isThrown
set_option maxRecDepth 20000 in
theorem ggX3_findUses_X2_firstTaker : GoodIn wsX3_findUses wsX2_firstTaker := goodIn_r _ [38, 39, 40, 41, 42, 78, 79, 80, 81, 82, 75, 76, 77] (by decide +kernel) (by decide +kernel)
set_option maxRecDepth 20000 in
theorem gX3_findUses_X2_firstTaker_n146 : GoodIn wsX3_findUses (wsX2_firstTaker) := ggX3_findUses_X2_firstTaker
set_option maxRecDepth 20000 in
theorem ggX3_findUses_X3_noteUse : GoodIn wsX3_findUses wsX3_noteUse := goodIn_r _ [50, 51, 1, 52, 53, 54, 8, 55, 56, 57, 58, 59, 60, 61, 62, 63, 64, 65, 66, 67, 68, 69, 70] (by decide +kernel) (by decide +kernel)
set_option maxRecDepth 20000 in
theorem gX3_findUses_X3_noteUse : GoodIn wsX3_findUses (wsV RX3 262 RX3 yX3_noteUse wsX3_noteUse) := goodIn_app (goodIn_of _ (by decide +kernel)) ggX3_findUses_X3_noteUse
theorem dX3_findUses_0 : decode cX3_findUses 0 = .ok (.aload_n 0, 1) := by decide +kernel
theorem dX3_findUses_1 : decode cX3_findUses 1 = .ok (.invokevirtual 150, 3) := by decide +kernel
theorem dX3_findUses_4 : decode cX3_findUses 4 = .ok (.iconst 0, 1) := by decide +kernel
theorem dX3_findUses_5 : decode cX3_findUses 5 = .ok (.istore_n 1, 1) := by decide +kernel
theorem dX3_findUses_6 : decode cX3_findUses 6 = .ok (.iload_n 1, 1) := by decide +kernel
theorem dX3_findUses_7 : decode cX3_findUses 7 = .ok (.bipush 24, 2) := by decide +kernel
theorem dX3_findUses_9 : decode cX3_findUses 9 = .ok (.if_icmp .ge 16, 3) := by decide +kernel
theorem dX3_findUses_12 : decode cX3_findUses 12 = .ok (.aload_n 0, 1) := by decide +kernel
theorem dX3_findUses_13 : decode cX3_findUses 13 = .ok (.getfield 44, 3) := by decide +kernel
theorem dX3_findUses_16 : decode cX3_findUses 16 = .ok (.iload_n 1, 1) := by decide +kernel
theorem dX3_findUses_17 : decode cX3_findUses 17 = .ok (.iconst 0, 1) := by decide +kernel
theorem dX3_findUses_18 : decode cX3_findUses 18 = .ok (.iastore, 1) := by decide +kernel
theorem dX3_findUses_19 : decode cX3_findUses 19 = .ok (.iinc 1 1, 3) := by decide +kernel
theorem dX3_findUses_22 : decode cX3_findUses 22 = .ok (.goto (-16), 3) := by decide +kernel
theorem dX3_findUses_25 : decode cX3_findUses 25 = .ok (.iconst 0, 1) := by decide +kernel
theorem dX3_findUses_26 : decode cX3_findUses 26 = .ok (.istore_n 1, 1) := by decide +kernel
theorem dX3_findUses_27 : decode cX3_findUses 27 = .ok (.iload_n 1, 1) := by decide +kernel
theorem dX3_findUses_28 : decode cX3_findUses 28 = .ok (.aload_n 0, 1) := by decide +kernel
theorem dX3_findUses_29 : decode cX3_findUses 29 = .ok (.getfield 19, 3) := by decide +kernel
theorem dX3_findUses_32 : decode cX3_findUses 32 = .ok (.getfield 99, 3) := by decide +kernel
theorem dX3_findUses_35 : decode cX3_findUses 35 = .ok (.if_icmp .ge 55, 3) := by decide +kernel
theorem dX3_findUses_38 : decode cX3_findUses 38 = .ok (.iconst 0, 1) := by decide +kernel
theorem dX3_findUses_39 : decode cX3_findUses 39 = .ok (.istore_n 2, 1) := by decide +kernel
theorem dX3_findUses_40 : decode cX3_findUses 40 = .ok (.iload_n 2, 1) := by decide +kernel
theorem dX3_findUses_41 : decode cX3_findUses 41 = .ok (.aload_n 0, 1) := by decide +kernel
theorem dX3_findUses_42 : decode cX3_findUses 42 = .ok (.getfield 12, 3) := by decide +kernel
theorem dX3_findUses_45 : decode cX3_findUses 45 = .ok (.getfield 76, 3) := by decide +kernel
theorem dX3_findUses_48 : decode cX3_findUses 48 = .ok (.if_icmp .ge 36, 3) := by decide +kernel
theorem dX3_findUses_51 : decode cX3_findUses 51 = .ok (.aload_n 0, 1) := by decide +kernel
theorem dX3_findUses_52 : decode cX3_findUses 52 = .ok (.iload_n 1, 1) := by decide +kernel
theorem dX3_findUses_53 : decode cX3_findUses 53 = .ok (.iload_n 2, 1) := by decide +kernel
theorem dX3_findUses_54 : decode cX3_findUses 54 = .ok (.invokevirtual 160, 3) := by decide +kernel
theorem dX3_findUses_57 : decode cX3_findUses 57 = .ok (.ifCond .eq 21, 3) := by decide +kernel
theorem dX3_findUses_60 : decode cX3_findUses 60 = .ok (.aload_n 0, 1) := by decide +kernel
theorem dX3_findUses_61 : decode cX3_findUses 61 = .ok (.aload_n 0, 1) := by decide +kernel
theorem dX3_findUses_62 : decode cX3_findUses 62 = .ok (.getfield 26, 3) := by decide +kernel
theorem dX3_findUses_65 : decode cX3_findUses 65 = .ok (.aload_n 0, 1) := by decide +kernel
theorem dX3_findUses_66 : decode cX3_findUses 66 = .ok (.getfield 12, 3) := by decide +kernel
theorem dX3_findUses_69 : decode cX3_findUses 69 = .ok (.iload_n 1, 1) := by decide +kernel
theorem dX3_findUses_70 : decode cX3_findUses 70 = .ok (.iload_n 2, 1) := by decide +kernel
theorem dX3_findUses_71 : decode cX3_findUses 71 = .ok (.invokevirtual 146, 3) := by decide +kernel
theorem dX3_findUses_74 : decode cX3_findUses 74 = .ok (.iload_n 1, 1) := by decide +kernel
theorem dX3_findUses_75 : decode cX3_findUses 75 = .ok (.invokevirtual 262, 3) := by decide +kernel
theorem dX3_findUses_78 : decode cX3_findUses 78 = .ok (.iinc 2 1, 3) := by decide +kernel
theorem dX3_findUses_81 : decode cX3_findUses 81 = .ok (.goto (-41), 3) := by decide +kernel
theorem dX3_findUses_84 : decode cX3_findUses 84 = .ok (.iinc 1 1, 3) := by decide +kernel
theorem dX3_findUses_87 : decode cX3_findUses 87 = .ok (.goto (-60), 3) := by decide +kernel
theorem dX3_findUses_90 : decode cX3_findUses 90 = .ok (.return_, 1) := by decide +kernel
set_option maxRecDepth 20000 in
theorem ggX3_noteUse_X3_hasUse : GoodIn wsX3_noteUse wsX3_hasUse := goodIn_r _ [7, 2, 8, 9, 10, 11, 12, 13, 14, 15, 16, 17, 18, 19, 20, 21, 22] (by decide +kernel) (by decide +kernel)
set_option maxRecDepth 20000 in
theorem gX3_noteUse_X3_hasUse : GoodIn wsX3_noteUse (wsV RX3 156 RX3 yX3_hasUse wsX3_hasUse) := goodIn_app (goodIn_of _ (by decide +kernel)) ggX3_noteUse_X3_hasUse
theorem dX3_noteUse_0 : decode cX3_noteUse 0 = .ok (.iload_n 1, 1) := by decide +kernel
theorem dX3_noteUse_1 : decode cX3_noteUse 1 = .ok (.iconst (-1), 1) := by decide +kernel
theorem dX3_noteUse_2 : decode cX3_noteUse 2 = .ok (.if_icmp .ne 4, 3) := by decide +kernel
theorem dX3_noteUse_5 : decode cX3_noteUse 5 = .ok (.return_, 1) := by decide +kernel
theorem dX3_noteUse_6 : decode cX3_noteUse 6 = .ok (.aload_n 0, 1) := by decide +kernel
theorem dX3_noteUse_7 : decode cX3_noteUse 7 = .ok (.iload_n 1, 1) := by decide +kernel
theorem dX3_noteUse_8 : decode cX3_noteUse 8 = .ok (.invokevirtual 156, 3) := by decide +kernel
theorem dX3_noteUse_11 : decode cX3_noteUse 11 = .ok (.ifCond .ne 10, 3) := by decide +kernel
theorem dX3_noteUse_14 : decode cX3_noteUse 14 = .ok (.aload_n 0, 1) := by decide +kernel
theorem dX3_noteUse_15 : decode cX3_noteUse 15 = .ok (.getfield 41, 3) := by decide +kernel
theorem dX3_noteUse_18 : decode cX3_noteUse 18 = .ok (.iload_n 1, 1) := by decide +kernel
theorem dX3_noteUse_19 : decode cX3_noteUse 19 = .ok (.iload_n 2, 1) := by decide +kernel
theorem dX3_noteUse_20 : decode cX3_noteUse 20 = .ok (.iastore, 1) := by decide +kernel
theorem dX3_noteUse_21 : decode cX3_noteUse 21 = .ok (.aload_n 0, 1) := by decide +kernel
theorem dX3_noteUse_22 : decode cX3_noteUse 22 = .ok (.getfield 44, 3) := by decide +kernel
theorem dX3_noteUse_25 : decode cX3_noteUse 25 = .ok (.iload_n 1, 1) := by decide +kernel
theorem dX3_noteUse_26 : decode cX3_noteUse 26 = .ok (.iload_n 2, 1) := by decide +kernel
theorem dX3_noteUse_27 : decode cX3_noteUse 27 = .ok (.iconst 1, 1) := by decide +kernel
theorem dX3_noteUse_28 : decode cX3_noteUse 28 = .ok (.iadd, 1) := by decide +kernel
theorem dX3_noteUse_29 : decode cX3_noteUse 29 = .ok (.iastore, 1) := by decide +kernel
theorem dX3_noteUse_30 : decode cX3_noteUse 30 = .ok (.return_, 1) := by decide +kernel
theorem dX3_hasUse_0 : decode cX3_hasUse 0 = .ok (.aload_n 0, 1) := by decide +kernel
theorem dX3_hasUse_1 : decode cX3_hasUse 1 = .ok (.getfield 44, 3) := by decide +kernel
theorem dX3_hasUse_4 : decode cX3_hasUse 4 = .ok (.iload_n 1, 1) := by decide +kernel
theorem dX3_hasUse_5 : decode cX3_hasUse 5 = .ok (.iaload, 1) := by decide +kernel
theorem dX3_hasUse_6 : decode cX3_hasUse 6 = .ok (.ifCond .le 7, 3) := by decide +kernel
theorem dX3_hasUse_9 : decode cX3_hasUse 9 = .ok (.iconst 1, 1) := by decide +kernel
theorem dX3_hasUse_10 : decode cX3_hasUse 10 = .ok (.goto 4, 3) := by decide +kernel
theorem dX3_hasUse_13 : decode cX3_hasUse 13 = .ok (.iconst 0, 1) := by decide +kernel
theorem dX3_hasUse_14 : decode cX3_hasUse 14 = .ok (.ireturn, 1) := by decide +kernel
theorem dX3_isTight_0 : decode cX3_isTight 0 = .ok (.aload_n 0, 1) := by decide +kernel
theorem dX3_isTight_1 : decode cX3_isTight 1 = .ok (.getfield 26, 3) := by decide +kernel
theorem dX3_isTight_4 : decode cX3_isTight 4 = .ok (.getfield 135, 3) := by decide +kernel
theorem dX3_isTight_7 : decode cX3_isTight 7 = .ok (.iload_n 1, 1) := by decide +kernel
theorem dX3_isTight_8 : decode cX3_isTight 8 = .ok (.iaload, 1) := by decide +kernel
theorem dX3_isTight_9 : decode cX3_isTight 9 = .ok (.aload_n 0, 1) := by decide +kernel
theorem dX3_isTight_10 : decode cX3_isTight 10 = .ok (.getfield 41, 3) := by decide +kernel
theorem dX3_isTight_13 : decode cX3_isTight 13 = .ok (.iload_n 1, 1) := by decide +kernel
theorem dX3_isTight_14 : decode cX3_isTight 14 = .ok (.iaload, 1) := by decide +kernel
theorem dX3_isTight_15 : decode cX3_isTight 15 = .ok (.if_icmp .ne 25, 3) := by decide +kernel
theorem dX3_isTight_18 : decode cX3_isTight 18 = .ok (.aload_n 0, 1) := by decide +kernel
theorem dX3_isTight_19 : decode cX3_isTight 19 = .ok (.getfield 26, 3) := by decide +kernel
theorem dX3_isTight_22 : decode cX3_isTight 22 = .ok (.getfield 138, 3) := by decide +kernel
theorem dX3_isTight_25 : decode cX3_isTight 25 = .ok (.iload_n 1, 1) := by decide +kernel
theorem dX3_isTight_26 : decode cX3_isTight 26 = .ok (.iaload, 1) := by decide +kernel
theorem dX3_isTight_27 : decode cX3_isTight 27 = .ok (.aload_n 0, 1) := by decide +kernel
theorem dX3_isTight_28 : decode cX3_isTight 28 = .ok (.getfield 44, 3) := by decide +kernel
theorem dX3_isTight_31 : decode cX3_isTight 31 = .ok (.iload_n 1, 1) := by decide +kernel
theorem dX3_isTight_32 : decode cX3_isTight 32 = .ok (.iaload, 1) := by decide +kernel
theorem dX3_isTight_33 : decode cX3_isTight 33 = .ok (.if_icmp .ne 7, 3) := by decide +kernel
theorem dX3_isTight_36 : decode cX3_isTight 36 = .ok (.iconst 1, 1) := by decide +kernel
theorem dX3_isTight_37 : decode cX3_isTight 37 = .ok (.goto 4, 3) := by decide +kernel
theorem dX3_isTight_40 : decode cX3_isTight 40 = .ok (.iconst 0, 1) := by decide +kernel
theorem dX3_isTight_41 : decode cX3_isTight 41 = .ok (.ireturn, 1) := by decide +kernel
set_option maxRecDepth 20000 in
theorem ggX3_goesLikeTheOneAhead_X2_goal : GoodIn wsX3_goesLikeTheOneAhead wsX2_goal := goodIn_r _ [6, 7, 8, 9, 10, 4, 11, 12, 13, 14, 15, 34, 35, 36, 37, 38, 31, 32, 33] (by decide +kernel) (by decide +kernel)
set_option maxRecDepth 20000 in
theorem gX3_goesLikeTheOneAhead_X2_goal_n259 : GoodIn wsX3_goesLikeTheOneAhead (wsX2_goal) := ggX3_goesLikeTheOneAhead_X2_goal
theorem dX3_goesLikeTheOneAhead_0 : decode cX3_goesLikeTheOneAhead 0 = .ok (.iconst 0, 1) := by decide +kernel
theorem dX3_goesLikeTheOneAhead_1 : decode cX3_goesLikeTheOneAhead 1 = .ok (.istore_n 2, 1) := by decide +kernel
theorem dX3_goesLikeTheOneAhead_2 : decode cX3_goesLikeTheOneAhead 2 = .ok (.iload_n 2, 1) := by decide +kernel
theorem dX3_goesLikeTheOneAhead_3 : decode cX3_goesLikeTheOneAhead 3 = .ok (.aload_n 0, 1) := by decide +kernel
theorem dX3_goesLikeTheOneAhead_4 : decode cX3_goesLikeTheOneAhead 4 = .ok (.getfield 12, 3) := by decide +kernel
theorem dX3_goesLikeTheOneAhead_7 : decode cX3_goesLikeTheOneAhead 7 = .ok (.getfield 76, 3) := by decide +kernel
theorem dX3_goesLikeTheOneAhead_10 : decode cX3_goesLikeTheOneAhead 10 = .ok (.if_icmp .ge 44, 3) := by decide +kernel
theorem dX3_goesLikeTheOneAhead_13 : decode cX3_goesLikeTheOneAhead 13 = .ok (.aload_n 0, 1) := by decide +kernel
theorem dX3_goesLikeTheOneAhead_14 : decode cX3_goesLikeTheOneAhead 14 = .ok (.getfield 26, 3) := by decide +kernel
theorem dX3_goesLikeTheOneAhead_17 : decode cX3_goesLikeTheOneAhead 17 = .ok (.aload_n 0, 1) := by decide +kernel
theorem dX3_goesLikeTheOneAhead_18 : decode cX3_goesLikeTheOneAhead 18 = .ok (.getfield 12, 3) := by decide +kernel
theorem dX3_goesLikeTheOneAhead_21 : decode cX3_goesLikeTheOneAhead 21 = .ok (.iload_n 1, 1) := by decide +kernel
theorem dX3_goesLikeTheOneAhead_22 : decode cX3_goesLikeTheOneAhead 22 = .ok (.iload_n 2, 1) := by decide +kernel
theorem dX3_goesLikeTheOneAhead_23 : decode cX3_goesLikeTheOneAhead 23 = .ok (.invokevirtual 259, 3) := by decide +kernel
theorem dX3_goesLikeTheOneAhead_26 : decode cX3_goesLikeTheOneAhead 26 = .ok (.istore_n 3, 1) := by decide +kernel
theorem dX3_goesLikeTheOneAhead_27 : decode cX3_goesLikeTheOneAhead 27 = .ok (.iload_n 3, 1) := by decide +kernel
theorem dX3_goesLikeTheOneAhead_28 : decode cX3_goesLikeTheOneAhead 28 = .ok (.aload_n 0, 1) := by decide +kernel
theorem dX3_goesLikeTheOneAhead_29 : decode cX3_goesLikeTheOneAhead 29 = .ok (.getfield 26, 3) := by decide +kernel
theorem dX3_goesLikeTheOneAhead_32 : decode cX3_goesLikeTheOneAhead 32 = .ok (.aload_n 0, 1) := by decide +kernel
theorem dX3_goesLikeTheOneAhead_33 : decode cX3_goesLikeTheOneAhead 33 = .ok (.getfield 12, 3) := by decide +kernel
theorem dX3_goesLikeTheOneAhead_36 : decode cX3_goesLikeTheOneAhead 36 = .ok (.iload_n 1, 1) := by decide +kernel
theorem dX3_goesLikeTheOneAhead_37 : decode cX3_goesLikeTheOneAhead 37 = .ok (.iconst 1, 1) := by decide +kernel
theorem dX3_goesLikeTheOneAhead_38 : decode cX3_goesLikeTheOneAhead 38 = .ok (.isub, 1) := by decide +kernel
theorem dX3_goesLikeTheOneAhead_39 : decode cX3_goesLikeTheOneAhead 39 = .ok (.iload_n 2, 1) := by decide +kernel
theorem dX3_goesLikeTheOneAhead_40 : decode cX3_goesLikeTheOneAhead 40 = .ok (.invokevirtual 259, 3) := by decide +kernel
theorem dX3_goesLikeTheOneAhead_43 : decode cX3_goesLikeTheOneAhead 43 = .ok (.if_icmp .eq 5, 3) := by decide +kernel
theorem dX3_goesLikeTheOneAhead_46 : decode cX3_goesLikeTheOneAhead 46 = .ok (.iconst 0, 1) := by decide +kernel
theorem dX3_goesLikeTheOneAhead_47 : decode cX3_goesLikeTheOneAhead 47 = .ok (.ireturn, 1) := by decide +kernel
theorem dX3_goesLikeTheOneAhead_48 : decode cX3_goesLikeTheOneAhead 48 = .ok (.iinc 2 1, 3) := by decide +kernel
theorem dX3_goesLikeTheOneAhead_51 : decode cX3_goesLikeTheOneAhead 51 = .ok (.goto (-49), 3) := by decide +kernel
theorem dX3_goesLikeTheOneAhead_54 : decode cX3_goesLikeTheOneAhead 54 = .ok (.iconst 1, 1) := by decide +kernel
theorem dX3_goesLikeTheOneAhead_55 : decode cX3_goesLikeTheOneAhead 55 = .ok (.ireturn, 1) := by decide +kernel
set_option maxRecDepth 20000 in
theorem ggX3_findGoals_X2_goal : GoodIn wsX3_findGoals wsX2_goal := goodIn_r _ [8, 9, 10, 11, 12, 6, 13, 14, 15, 16, 17, 40, 41, 42, 43, 44, 37, 38, 39] (by decide +kernel) (by decide +kernel)
set_option maxRecDepth 20000 in
theorem gX3_findGoals_X2_goal_n259 : GoodIn wsX3_findGoals (wsX2_goal) := ggX3_findGoals_X2_goal
theorem dX3_findGoals_0 : decode cX3_findGoals 0 = .ok (.iconst 0, 1) := by decide +kernel
theorem dX3_findGoals_1 : decode cX3_findGoals 1 = .ok (.istore_n 1, 1) := by decide +kernel
theorem dX3_findGoals_2 : decode cX3_findGoals 2 = .ok (.iload_n 1, 1) := by decide +kernel
theorem dX3_findGoals_3 : decode cX3_findGoals 3 = .ok (.aload_n 0, 1) := by decide +kernel
theorem dX3_findGoals_4 : decode cX3_findGoals 4 = .ok (.getfield 19, 3) := by decide +kernel
theorem dX3_findGoals_7 : decode cX3_findGoals 7 = .ok (.getfield 99, 3) := by decide +kernel
theorem dX3_findGoals_10 : decode cX3_findGoals 10 = .ok (.if_icmp .ge 52, 3) := by decide +kernel
theorem dX3_findGoals_13 : decode cX3_findGoals 13 = .ok (.iconst 0, 1) := by decide +kernel
theorem dX3_findGoals_14 : decode cX3_findGoals 14 = .ok (.istore_n 2, 1) := by decide +kernel
theorem dX3_findGoals_15 : decode cX3_findGoals 15 = .ok (.iload_n 2, 1) := by decide +kernel
theorem dX3_findGoals_16 : decode cX3_findGoals 16 = .ok (.aload_n 0, 1) := by decide +kernel
theorem dX3_findGoals_17 : decode cX3_findGoals 17 = .ok (.getfield 12, 3) := by decide +kernel
theorem dX3_findGoals_20 : decode cX3_findGoals 20 = .ok (.getfield 76, 3) := by decide +kernel
theorem dX3_findGoals_23 : decode cX3_findGoals 23 = .ok (.if_icmp .ge 33, 3) := by decide +kernel
theorem dX3_findGoals_26 : decode cX3_findGoals 26 = .ok (.aload_n 0, 1) := by decide +kernel
theorem dX3_findGoals_27 : decode cX3_findGoals 27 = .ok (.getfield 47, 3) := by decide +kernel
theorem dX3_findGoals_30 : decode cX3_findGoals 30 = .ok (.iload_n 1, 1) := by decide +kernel
theorem dX3_findGoals_31 : decode cX3_findGoals 31 = .ok (.bipush 8, 2) := by decide +kernel
theorem dX3_findGoals_33 : decode cX3_findGoals 33 = .ok (.imul, 1) := by decide +kernel
theorem dX3_findGoals_34 : decode cX3_findGoals 34 = .ok (.iload_n 2, 1) := by decide +kernel
theorem dX3_findGoals_35 : decode cX3_findGoals 35 = .ok (.iadd, 1) := by decide +kernel
theorem dX3_findGoals_36 : decode cX3_findGoals 36 = .ok (.aload_n 0, 1) := by decide +kernel
theorem dX3_findGoals_37 : decode cX3_findGoals 37 = .ok (.getfield 26, 3) := by decide +kernel
theorem dX3_findGoals_40 : decode cX3_findGoals 40 = .ok (.aload_n 0, 1) := by decide +kernel
theorem dX3_findGoals_41 : decode cX3_findGoals 41 = .ok (.getfield 12, 3) := by decide +kernel
theorem dX3_findGoals_44 : decode cX3_findGoals 44 = .ok (.iload_n 1, 1) := by decide +kernel
theorem dX3_findGoals_45 : decode cX3_findGoals 45 = .ok (.iload_n 2, 1) := by decide +kernel
theorem dX3_findGoals_46 : decode cX3_findGoals 46 = .ok (.invokevirtual 259, 3) := by decide +kernel
theorem dX3_findGoals_49 : decode cX3_findGoals 49 = .ok (.iastore, 1) := by decide +kernel
theorem dX3_findGoals_50 : decode cX3_findGoals 50 = .ok (.iinc 2 1, 3) := by decide +kernel
theorem dX3_findGoals_53 : decode cX3_findGoals 53 = .ok (.goto (-38), 3) := by decide +kernel
theorem dX3_findGoals_56 : decode cX3_findGoals 56 = .ok (.iinc 1 1, 3) := by decide +kernel
theorem dX3_findGoals_59 : decode cX3_findGoals 59 = .ok (.goto (-57), 3) := by decide +kernel
theorem dX3_findGoals_62 : decode cX3_findGoals 62 = .ok (.return_, 1) := by decide +kernel
set_option maxRecDepth 20000 in
theorem ggX3_trialKeepsGoals_X3_isThrown : GoodIn wsX3_trialKeepsGoals wsX3_isThrown := goodIn_r _ [9, 10, 1, 11, 12, 13, 14, 15, 29, 30, 31, 32, 33, 34, 35, 36, 37, 38, 39, 40, 41, 42, 43, 44, 45, 46, 47] (by decide +kernel) (by decide +kernel)
set_option maxRecDepth 20000 in
theorem gX3_trialKeepsGoals_X3_isThrown : GoodIn wsX3_trialKeepsGoals (wsV RX3 160 RX3 yX3_isThrown wsX3_isThrown) := goodIn_app (goodIn_of _ (by decide +kernel)) ggX3_trialKeepsGoals_X3_isThrown
set_option maxRecDepth 20000 in
theorem ggX3_trialKeepsGoals_X2_goal : GoodIn wsX3_trialKeepsGoals wsX2_goal := goodIn_r _ [19, 20, 21, 22, 23, 17, 24, 25, 26, 27, 28, 51, 52, 53, 54, 55, 48, 49, 50] (by decide +kernel) (by decide +kernel)
set_option maxRecDepth 20000 in
theorem gX3_trialKeepsGoals_X2_goal_n259 : GoodIn wsX3_trialKeepsGoals (wsX2_goal) := ggX3_trialKeepsGoals_X2_goal
theorem dX3_trialKeepsGoals_0 : decode cX3_trialKeepsGoals 0 = .ok (.iconst 0, 1) := by decide +kernel
theorem dX3_trialKeepsGoals_1 : decode cX3_trialKeepsGoals 1 = .ok (.istore_n 1, 1) := by decide +kernel
theorem dX3_trialKeepsGoals_2 : decode cX3_trialKeepsGoals 2 = .ok (.iload_n 1, 1) := by decide +kernel
theorem dX3_trialKeepsGoals_3 : decode cX3_trialKeepsGoals 3 = .ok (.aload_n 0, 1) := by decide +kernel
theorem dX3_trialKeepsGoals_4 : decode cX3_trialKeepsGoals 4 = .ok (.getfield 19, 3) := by decide +kernel
theorem dX3_trialKeepsGoals_7 : decode cX3_trialKeepsGoals 7 = .ok (.getfield 99, 3) := by decide +kernel
theorem dX3_trialKeepsGoals_10 : decode cX3_trialKeepsGoals 10 = .ok (.if_icmp .ge 66, 3) := by decide +kernel
theorem dX3_trialKeepsGoals_13 : decode cX3_trialKeepsGoals 13 = .ok (.iconst 0, 1) := by decide +kernel
theorem dX3_trialKeepsGoals_14 : decode cX3_trialKeepsGoals 14 = .ok (.istore_n 2, 1) := by decide +kernel
theorem dX3_trialKeepsGoals_15 : decode cX3_trialKeepsGoals 15 = .ok (.iload_n 2, 1) := by decide +kernel
theorem dX3_trialKeepsGoals_16 : decode cX3_trialKeepsGoals 16 = .ok (.aload_n 0, 1) := by decide +kernel
theorem dX3_trialKeepsGoals_17 : decode cX3_trialKeepsGoals 17 = .ok (.getfield 12, 3) := by decide +kernel
theorem dX3_trialKeepsGoals_20 : decode cX3_trialKeepsGoals 20 = .ok (.getfield 76, 3) := by decide +kernel
theorem dX3_trialKeepsGoals_23 : decode cX3_trialKeepsGoals 23 = .ok (.if_icmp .ge 47, 3) := by decide +kernel
theorem dX3_trialKeepsGoals_26 : decode cX3_trialKeepsGoals 26 = .ok (.aload_n 0, 1) := by decide +kernel
theorem dX3_trialKeepsGoals_27 : decode cX3_trialKeepsGoals 27 = .ok (.iload_n 1, 1) := by decide +kernel
theorem dX3_trialKeepsGoals_28 : decode cX3_trialKeepsGoals 28 = .ok (.iload_n 2, 1) := by decide +kernel
theorem dX3_trialKeepsGoals_29 : decode cX3_trialKeepsGoals 29 = .ok (.invokevirtual 160, 3) := by decide +kernel
theorem dX3_trialKeepsGoals_32 : decode cX3_trialKeepsGoals 32 = .ok (.ifCond .eq 32, 3) := by decide +kernel
theorem dX3_trialKeepsGoals_35 : decode cX3_trialKeepsGoals 35 = .ok (.aload_n 0, 1) := by decide +kernel
theorem dX3_trialKeepsGoals_36 : decode cX3_trialKeepsGoals 36 = .ok (.getfield 30, 3) := by decide +kernel
theorem dX3_trialKeepsGoals_39 : decode cX3_trialKeepsGoals 39 = .ok (.aload_n 0, 1) := by decide +kernel
theorem dX3_trialKeepsGoals_40 : decode cX3_trialKeepsGoals 40 = .ok (.getfield 12, 3) := by decide +kernel
theorem dX3_trialKeepsGoals_43 : decode cX3_trialKeepsGoals 43 = .ok (.iload_n 1, 1) := by decide +kernel
theorem dX3_trialKeepsGoals_44 : decode cX3_trialKeepsGoals 44 = .ok (.iload_n 2, 1) := by decide +kernel
theorem dX3_trialKeepsGoals_45 : decode cX3_trialKeepsGoals 45 = .ok (.invokevirtual 259, 3) := by decide +kernel
theorem dX3_trialKeepsGoals_48 : decode cX3_trialKeepsGoals 48 = .ok (.aload_n 0, 1) := by decide +kernel
theorem dX3_trialKeepsGoals_49 : decode cX3_trialKeepsGoals 49 = .ok (.getfield 47, 3) := by decide +kernel
theorem dX3_trialKeepsGoals_52 : decode cX3_trialKeepsGoals 52 = .ok (.iload_n 1, 1) := by decide +kernel
theorem dX3_trialKeepsGoals_53 : decode cX3_trialKeepsGoals 53 = .ok (.bipush 8, 2) := by decide +kernel
theorem dX3_trialKeepsGoals_55 : decode cX3_trialKeepsGoals 55 = .ok (.imul, 1) := by decide +kernel
theorem dX3_trialKeepsGoals_56 : decode cX3_trialKeepsGoals 56 = .ok (.iload_n 2, 1) := by decide +kernel
theorem dX3_trialKeepsGoals_57 : decode cX3_trialKeepsGoals 57 = .ok (.iadd, 1) := by decide +kernel
theorem dX3_trialKeepsGoals_58 : decode cX3_trialKeepsGoals 58 = .ok (.iaload, 1) := by decide +kernel
theorem dX3_trialKeepsGoals_59 : decode cX3_trialKeepsGoals 59 = .ok (.if_icmp .eq 5, 3) := by decide +kernel
theorem dX3_trialKeepsGoals_62 : decode cX3_trialKeepsGoals 62 = .ok (.iconst 0, 1) := by decide +kernel
theorem dX3_trialKeepsGoals_63 : decode cX3_trialKeepsGoals 63 = .ok (.ireturn, 1) := by decide +kernel
theorem dX3_trialKeepsGoals_64 : decode cX3_trialKeepsGoals 64 = .ok (.iinc 2 1, 3) := by decide +kernel
theorem dX3_trialKeepsGoals_67 : decode cX3_trialKeepsGoals 67 = .ok (.goto (-52), 3) := by decide +kernel
theorem dX3_trialKeepsGoals_70 : decode cX3_trialKeepsGoals 70 = .ok (.iinc 1 1, 3) := by decide +kernel
theorem dX3_trialKeepsGoals_73 : decode cX3_trialKeepsGoals 73 = .ok (.goto (-71), 3) := by decide +kernel
theorem dX3_trialKeepsGoals_76 : decode cX3_trialKeepsGoals 76 = .ok (.iconst 1, 1) := by decide +kernel
theorem dX3_trialKeepsGoals_77 : decode cX3_trialKeepsGoals 77 = .ok (.ireturn, 1) := by decide +kernel
set_option maxRecDepth 20000 in
theorem ggX3_joinFirstPair_X3_joinInPlaceOf : GoodIn wsX3_joinFirstPair wsX3_joinInPlaceOf := goodIn_r _ [6, 7, 1, 8, 9, 10, 11, 12, 13, 14, 15, 16, 17, 18, 19, 20, 21, 22, 23, 24, 25, 26, 27, 28, 29, 30, 31, 32, 33, 34, 35, 36, 37, 38, 39, 40, 41, 42, 43, 44, 5, 45, 46, 47, 48, 49, 50, 51, 52, 53, 54, 55, 56, 57, 58, 59, 60, 61, 62, 63, 64, 65, 66, 67, 68, 69, 70, 71, 72, 73, 74, 75, 76, 77, 78, 79, 80, 81, 82, 83, 84, 85, 86, 87, 88, 89, 90, 91] (by decide +kernel) (by decide +kernel)
set_option maxRecDepth 20000 in
theorem gX3_joinFirstPair_X3_joinInPlaceOf : GoodIn wsX3_joinFirstPair (wsV RX3 266 RX3 yX3_joinInPlaceOf wsX3_joinInPlaceOf) := goodIn_app (goodIn_of _ (by decide +kernel)) ggX3_joinFirstPair_X3_joinInPlaceOf
theorem dX3_joinFirstPair_0 : decode cX3_joinFirstPair 0 = .ok (.iconst 0, 1) := by decide +kernel
theorem dX3_joinFirstPair_1 : decode cX3_joinFirstPair 1 = .ok (.istore_n 1, 1) := by decide +kernel
theorem dX3_joinFirstPair_2 : decode cX3_joinFirstPair 2 = .ok (.iload_n 1, 1) := by decide +kernel
theorem dX3_joinFirstPair_3 : decode cX3_joinFirstPair 3 = .ok (.aload_n 0, 1) := by decide +kernel
theorem dX3_joinFirstPair_4 : decode cX3_joinFirstPair 4 = .ok (.getfield 26, 3) := by decide +kernel
theorem dX3_joinFirstPair_7 : decode cX3_joinFirstPair 7 = .ok (.getfield 134, 3) := by decide +kernel
theorem dX3_joinFirstPair_10 : decode cX3_joinFirstPair 10 = .ok (.if_icmp .ge 71, 3) := by decide +kernel
theorem dX3_joinFirstPair_13 : decode cX3_joinFirstPair 13 = .ok (.iload_n 1, 1) := by decide +kernel
theorem dX3_joinFirstPair_14 : decode cX3_joinFirstPair 14 = .ok (.iconst 1, 1) := by decide +kernel
theorem dX3_joinFirstPair_15 : decode cX3_joinFirstPair 15 = .ok (.iadd, 1) := by decide +kernel
theorem dX3_joinFirstPair_16 : decode cX3_joinFirstPair 16 = .ok (.istore_n 2, 1) := by decide +kernel
theorem dX3_joinFirstPair_17 : decode cX3_joinFirstPair 17 = .ok (.iload_n 2, 1) := by decide +kernel
theorem dX3_joinFirstPair_18 : decode cX3_joinFirstPair 18 = .ok (.aload_n 0, 1) := by decide +kernel
theorem dX3_joinFirstPair_19 : decode cX3_joinFirstPair 19 = .ok (.getfield 26, 3) := by decide +kernel
theorem dX3_joinFirstPair_22 : decode cX3_joinFirstPair 22 = .ok (.getfield 134, 3) := by decide +kernel
theorem dX3_joinFirstPair_25 : decode cX3_joinFirstPair 25 = .ok (.if_icmp .ge 50, 3) := by decide +kernel
theorem dX3_joinFirstPair_28 : decode cX3_joinFirstPair 28 = .ok (.aload_n 0, 1) := by decide +kernel
theorem dX3_joinFirstPair_29 : decode cX3_joinFirstPair 29 = .ok (.getfield 26, 3) := by decide +kernel
theorem dX3_joinFirstPair_32 : decode cX3_joinFirstPair 32 = .ok (.getfield 143, 3) := by decide +kernel
theorem dX3_joinFirstPair_35 : decode cX3_joinFirstPair 35 = .ok (.iload_n 1, 1) := by decide +kernel
theorem dX3_joinFirstPair_36 : decode cX3_joinFirstPair 36 = .ok (.iaload, 1) := by decide +kernel
theorem dX3_joinFirstPair_37 : decode cX3_joinFirstPair 37 = .ok (.aload_n 0, 1) := by decide +kernel
theorem dX3_joinFirstPair_38 : decode cX3_joinFirstPair 38 = .ok (.getfield 26, 3) := by decide +kernel
theorem dX3_joinFirstPair_41 : decode cX3_joinFirstPair 41 = .ok (.getfield 143, 3) := by decide +kernel
theorem dX3_joinFirstPair_44 : decode cX3_joinFirstPair 44 = .ok (.iload_n 2, 1) := by decide +kernel
theorem dX3_joinFirstPair_45 : decode cX3_joinFirstPair 45 = .ok (.iaload, 1) := by decide +kernel
theorem dX3_joinFirstPair_46 : decode cX3_joinFirstPair 46 = .ok (.if_icmp .ne 23, 3) := by decide +kernel
theorem dX3_joinFirstPair_49 : decode cX3_joinFirstPair 49 = .ok (.aload_n 0, 1) := by decide +kernel
theorem dX3_joinFirstPair_50 : decode cX3_joinFirstPair 50 = .ok (.iload_n 1, 1) := by decide +kernel
theorem dX3_joinFirstPair_51 : decode cX3_joinFirstPair 51 = .ok (.iload_n 2, 1) := by decide +kernel
theorem dX3_joinFirstPair_52 : decode cX3_joinFirstPair 52 = .ok (.invokevirtual 266, 3) := by decide +kernel
theorem dX3_joinFirstPair_55 : decode cX3_joinFirstPair 55 = .ok (.ifCond .ne 12, 3) := by decide +kernel
theorem dX3_joinFirstPair_58 : decode cX3_joinFirstPair 58 = .ok (.aload_n 0, 1) := by decide +kernel
theorem dX3_joinFirstPair_59 : decode cX3_joinFirstPair 59 = .ok (.iload_n 2, 1) := by decide +kernel
theorem dX3_joinFirstPair_60 : decode cX3_joinFirstPair 60 = .ok (.iload_n 1, 1) := by decide +kernel
theorem dX3_joinFirstPair_61 : decode cX3_joinFirstPair 61 = .ok (.invokevirtual 266, 3) := by decide +kernel
theorem dX3_joinFirstPair_64 : decode cX3_joinFirstPair 64 = .ok (.ifCond .eq 5, 3) := by decide +kernel
theorem dX3_joinFirstPair_67 : decode cX3_joinFirstPair 67 = .ok (.iconst 1, 1) := by decide +kernel
theorem dX3_joinFirstPair_68 : decode cX3_joinFirstPair 68 = .ok (.ireturn, 1) := by decide +kernel
theorem dX3_joinFirstPair_69 : decode cX3_joinFirstPair 69 = .ok (.iinc 2 1, 3) := by decide +kernel
theorem dX3_joinFirstPair_72 : decode cX3_joinFirstPair 72 = .ok (.goto (-55), 3) := by decide +kernel
theorem dX3_joinFirstPair_75 : decode cX3_joinFirstPair 75 = .ok (.iinc 1 1, 3) := by decide +kernel
theorem dX3_joinFirstPair_78 : decode cX3_joinFirstPair 78 = .ok (.goto (-76), 3) := by decide +kernel
theorem dX3_joinFirstPair_81 : decode cX3_joinFirstPair 81 = .ok (.iconst 0, 1) := by decide +kernel
theorem dX3_joinFirstPair_82 : decode cX3_joinFirstPair 82 = .ok (.ireturn, 1) := by decide +kernel
set_option maxRecDepth 20000 in
theorem ggX3_joinInPlaceOf_X2_copyAll : GoodIn wsX3_joinInPlaceOf wsX2_copyAll := goodIn_r _ [14, 15, 16, 17, 18, 12, 19, 20, 21, 22, 23, 76, 77, 78, 79, 80] (by decide +kernel) (by decide +kernel)
set_option maxRecDepth 20000 in
theorem gX3_joinInPlaceOf_X2_copyAll_n269 : GoodIn wsX3_joinInPlaceOf (wsX2_copyAll) := ggX3_joinInPlaceOf_X2_copyAll
set_option maxRecDepth 20000 in
theorem ggX3_joinInPlaceOf_X1_lowestAbove : GoodIn wsX3_joinInPlaceOf wsX1_lowestAbove := goodIn_r _ [27, 28, 4, 5, 6, 29, 30, 31, 25, 32, 33, 81, 82, 83] (by decide +kernel) (by decide +kernel)
set_option maxRecDepth 20000 in
theorem gX3_joinInPlaceOf_X1_lowestAbove_n83 : GoodIn wsX3_joinInPlaceOf (wsX1_lowestAbove) := ggX3_joinInPlaceOf_X1_lowestAbove
set_option maxRecDepth 20000 in
theorem ggX3_joinInPlaceOf_X2_delete : GoodIn wsX3_joinInPlaceOf wsX2_delete := goodIn_r _ [36, 15, 16, 17, 18, 12, 19, 20, 21, 22, 23, 76, 77, 78, 79, 80] (by decide +kernel) (by decide +kernel)
set_option maxRecDepth 20000 in
theorem gX3_joinInPlaceOf_X2_delete_n131 : GoodIn wsX3_joinInPlaceOf (wsX2_delete) := ggX3_joinInPlaceOf_X2_delete
set_option maxRecDepth 20000 in
theorem ggX3_joinInPlaceOf_X3_trialKeepsGoals : GoodIn wsX3_joinInPlaceOf wsX3_trialKeepsGoals := goodIn_r _ [41, 42, 10, 1, 43, 44, 45, 46, 40, 47, 48, 49, 50, 51, 52, 53, 54, 12, 55, 56, 23, 57, 58, 59, 60, 15, 20, 21, 22, 61, 62, 63, 64, 65, 66, 67, 68, 69, 70, 71, 72, 73, 74, 75, 84, 85, 86, 87, 81, 82, 83, 76, 77, 78, 79, 80] (by decide +kernel) (by decide +kernel)
set_option maxRecDepth 20000 in
theorem gX3_joinInPlaceOf_X3_trialKeepsGoals : GoodIn wsX3_joinInPlaceOf (wsV RX3 281 RX3 yX3_trialKeepsGoals wsX3_trialKeepsGoals) := goodIn_app (goodIn_of _ (by decide +kernel)) ggX3_joinInPlaceOf_X3_trialKeepsGoals
theorem dX3_joinInPlaceOf_0 : decode cX3_joinInPlaceOf 0 = .ok (.aload_n 0, 1) := by decide +kernel
theorem dX3_joinInPlaceOf_1 : decode cX3_joinInPlaceOf 1 = .ok (.getfield 30, 3) := by decide +kernel
theorem dX3_joinInPlaceOf_4 : decode cX3_joinInPlaceOf 4 = .ok (.aload_n 0, 1) := by decide +kernel
theorem dX3_joinInPlaceOf_5 : decode cX3_joinInPlaceOf 5 = .ok (.getfield 26, 3) := by decide +kernel
theorem dX3_joinInPlaceOf_8 : decode cX3_joinInPlaceOf 8 = .ok (.invokevirtual 269, 3) := by decide +kernel
theorem dX3_joinInPlaceOf_11 : decode cX3_joinInPlaceOf 11 = .ok (.aload_n 0, 1) := by decide +kernel
theorem dX3_joinInPlaceOf_12 : decode cX3_joinInPlaceOf 12 = .ok (.getfield 30, 3) := by decide +kernel
theorem dX3_joinInPlaceOf_15 : decode cX3_joinInPlaceOf 15 = .ok (.getfield 135, 3) := by decide +kernel
theorem dX3_joinInPlaceOf_18 : decode cX3_joinInPlaceOf 18 = .ok (.iload_n 1, 1) := by decide +kernel
theorem dX3_joinInPlaceOf_19 : decode cX3_joinInPlaceOf 19 = .ok (.aload_n 0, 1) := by decide +kernel
theorem dX3_joinInPlaceOf_20 : decode cX3_joinInPlaceOf 20 = .ok (.getfield 26, 3) := by decide +kernel
theorem dX3_joinInPlaceOf_23 : decode cX3_joinInPlaceOf 23 = .ok (.getfield 135, 3) := by decide +kernel
theorem dX3_joinInPlaceOf_26 : decode cX3_joinInPlaceOf 26 = .ok (.iload_n 1, 1) := by decide +kernel
theorem dX3_joinInPlaceOf_27 : decode cX3_joinInPlaceOf 27 = .ok (.iaload, 1) := by decide +kernel
theorem dX3_joinInPlaceOf_28 : decode cX3_joinInPlaceOf 28 = .ok (.aload_n 0, 1) := by decide +kernel
theorem dX3_joinInPlaceOf_29 : decode cX3_joinInPlaceOf 29 = .ok (.getfield 26, 3) := by decide +kernel
theorem dX3_joinInPlaceOf_32 : decode cX3_joinInPlaceOf 32 = .ok (.getfield 135, 3) := by decide +kernel
theorem dX3_joinInPlaceOf_35 : decode cX3_joinInPlaceOf 35 = .ok (.iload_n 2, 1) := by decide +kernel
theorem dX3_joinInPlaceOf_36 : decode cX3_joinInPlaceOf 36 = .ok (.iaload, 1) := by decide +kernel
theorem dX3_joinInPlaceOf_37 : decode cX3_joinInPlaceOf 37 = .ok (.invokestatic 273, 3) := by decide +kernel
theorem dX3_joinInPlaceOf_40 : decode cX3_joinInPlaceOf 40 = .ok (.iastore, 1) := by decide +kernel
theorem dX3_joinInPlaceOf_41 : decode cX3_joinInPlaceOf 41 = .ok (.aload_n 0, 1) := by decide +kernel
theorem dX3_joinInPlaceOf_42 : decode cX3_joinInPlaceOf 42 = .ok (.getfield 30, 3) := by decide +kernel
theorem dX3_joinInPlaceOf_45 : decode cX3_joinInPlaceOf 45 = .ok (.getfield 138, 3) := by decide +kernel
theorem dX3_joinInPlaceOf_48 : decode cX3_joinInPlaceOf 48 = .ok (.iload_n 1, 1) := by decide +kernel
theorem dX3_joinInPlaceOf_49 : decode cX3_joinInPlaceOf 49 = .ok (.aload_n 0, 1) := by decide +kernel
theorem dX3_joinInPlaceOf_50 : decode cX3_joinInPlaceOf 50 = .ok (.getfield 26, 3) := by decide +kernel
theorem dX3_joinInPlaceOf_53 : decode cX3_joinInPlaceOf 53 = .ok (.getfield 138, 3) := by decide +kernel
theorem dX3_joinInPlaceOf_56 : decode cX3_joinInPlaceOf 56 = .ok (.iload_n 1, 1) := by decide +kernel
theorem dX3_joinInPlaceOf_57 : decode cX3_joinInPlaceOf 57 = .ok (.iaload, 1) := by decide +kernel
theorem dX3_joinInPlaceOf_58 : decode cX3_joinInPlaceOf 58 = .ok (.aload_n 0, 1) := by decide +kernel
theorem dX3_joinInPlaceOf_59 : decode cX3_joinInPlaceOf 59 = .ok (.getfield 26, 3) := by decide +kernel
theorem dX3_joinInPlaceOf_62 : decode cX3_joinInPlaceOf 62 = .ok (.getfield 138, 3) := by decide +kernel
theorem dX3_joinInPlaceOf_65 : decode cX3_joinInPlaceOf 65 = .ok (.iload_n 2, 1) := by decide +kernel
theorem dX3_joinInPlaceOf_66 : decode cX3_joinInPlaceOf 66 = .ok (.iaload, 1) := by decide +kernel
theorem dX3_joinInPlaceOf_67 : decode cX3_joinInPlaceOf 67 = .ok (.invokestatic 278, 3) := by decide +kernel
theorem dX3_joinInPlaceOf_70 : decode cX3_joinInPlaceOf 70 = .ok (.iastore, 1) := by decide +kernel
theorem dX3_joinInPlaceOf_71 : decode cX3_joinInPlaceOf 71 = .ok (.aload_n 0, 1) := by decide +kernel
theorem dX3_joinInPlaceOf_72 : decode cX3_joinInPlaceOf 72 = .ok (.getfield 30, 3) := by decide +kernel
theorem dX3_joinInPlaceOf_75 : decode cX3_joinInPlaceOf 75 = .ok (.getfield 141, 3) := by decide +kernel
theorem dX3_joinInPlaceOf_78 : decode cX3_joinInPlaceOf 78 = .ok (.iload_n 1, 1) := by decide +kernel
theorem dX3_joinInPlaceOf_79 : decode cX3_joinInPlaceOf 79 = .ok (.aload_n 0, 1) := by decide +kernel
theorem dX3_joinInPlaceOf_80 : decode cX3_joinInPlaceOf 80 = .ok (.getfield 12, 3) := by decide +kernel
theorem dX3_joinInPlaceOf_83 : decode cX3_joinInPlaceOf 83 = .ok (.aload_n 0, 1) := by decide +kernel
theorem dX3_joinInPlaceOf_84 : decode cX3_joinInPlaceOf 84 = .ok (.getfield 26, 3) := by decide +kernel
theorem dX3_joinInPlaceOf_87 : decode cX3_joinInPlaceOf 87 = .ok (.getfield 141, 3) := by decide +kernel
theorem dX3_joinInPlaceOf_90 : decode cX3_joinInPlaceOf 90 = .ok (.iload_n 1, 1) := by decide +kernel
theorem dX3_joinInPlaceOf_91 : decode cX3_joinInPlaceOf 91 = .ok (.iaload, 1) := by decide +kernel
theorem dX3_joinInPlaceOf_92 : decode cX3_joinInPlaceOf 92 = .ok (.aload_n 0, 1) := by decide +kernel
theorem dX3_joinInPlaceOf_93 : decode cX3_joinInPlaceOf 93 = .ok (.getfield 26, 3) := by decide +kernel
theorem dX3_joinInPlaceOf_96 : decode cX3_joinInPlaceOf 96 = .ok (.getfield 141, 3) := by decide +kernel
theorem dX3_joinInPlaceOf_99 : decode cX3_joinInPlaceOf 99 = .ok (.iload_n 2, 1) := by decide +kernel
theorem dX3_joinInPlaceOf_100 : decode cX3_joinInPlaceOf 100 = .ok (.iaload, 1) := by decide +kernel
theorem dX3_joinInPlaceOf_101 : decode cX3_joinInPlaceOf 101 = .ok (.invokevirtual 83, 3) := by decide +kernel
theorem dX3_joinInPlaceOf_104 : decode cX3_joinInPlaceOf 104 = .ok (.iastore, 1) := by decide +kernel
theorem dX3_joinInPlaceOf_105 : decode cX3_joinInPlaceOf 105 = .ok (.aload_n 0, 1) := by decide +kernel
theorem dX3_joinInPlaceOf_106 : decode cX3_joinInPlaceOf 106 = .ok (.getfield 30, 3) := by decide +kernel
theorem dX3_joinInPlaceOf_109 : decode cX3_joinInPlaceOf 109 = .ok (.iload_n 2, 1) := by decide +kernel
theorem dX3_joinInPlaceOf_110 : decode cX3_joinInPlaceOf 110 = .ok (.invokevirtual 131, 3) := by decide +kernel
theorem dX3_joinInPlaceOf_113 : decode cX3_joinInPlaceOf 113 = .ok (.aload_n 0, 1) := by decide +kernel
theorem dX3_joinInPlaceOf_114 : decode cX3_joinInPlaceOf 114 = .ok (.invokevirtual 281, 3) := by decide +kernel
theorem dX3_joinInPlaceOf_117 : decode cX3_joinInPlaceOf 117 = .ok (.ifCond .ne 5, 3) := by decide +kernel
theorem dX3_joinInPlaceOf_120 : decode cX3_joinInPlaceOf 120 = .ok (.iconst 0, 1) := by decide +kernel
theorem dX3_joinInPlaceOf_121 : decode cX3_joinInPlaceOf 121 = .ok (.ireturn, 1) := by decide +kernel
theorem dX3_joinInPlaceOf_122 : decode cX3_joinInPlaceOf 122 = .ok (.aload_n 0, 1) := by decide +kernel
theorem dX3_joinInPlaceOf_123 : decode cX3_joinInPlaceOf 123 = .ok (.getfield 26, 3) := by decide +kernel
theorem dX3_joinInPlaceOf_126 : decode cX3_joinInPlaceOf 126 = .ok (.aload_n 0, 1) := by decide +kernel
theorem dX3_joinInPlaceOf_127 : decode cX3_joinInPlaceOf 127 = .ok (.getfield 30, 3) := by decide +kernel
theorem dX3_joinInPlaceOf_130 : decode cX3_joinInPlaceOf 130 = .ok (.invokevirtual 269, 3) := by decide +kernel
theorem dX3_joinInPlaceOf_133 : decode cX3_joinInPlaceOf 133 = .ok (.iconst 1, 1) := by decide +kernel
theorem dX3_joinInPlaceOf_134 : decode cX3_joinInPlaceOf 134 = .ok (.ireturn, 1) := by decide +kernel
set_option maxRecDepth 20000 in
theorem ggX3_countRemovedAhead_X0_has : GoodIn wsX3_countRemovedAhead wsX0_has := goodIn_r _ [7, 8, 24, 25, 26, 27] (by decide +kernel) (by decide +kernel)
set_option maxRecDepth 20000 in
theorem gX3_countRemovedAhead_X0_has_n208 : GoodIn wsX3_countRemovedAhead (wsX0_has) := ggX3_countRemovedAhead_X0_has
theorem dX3_countRemovedAhead_0 : decode cX3_countRemovedAhead 0 = .ok (.iconst 0, 1) := by decide +kernel
theorem dX3_countRemovedAhead_1 : decode cX3_countRemovedAhead 1 = .ok (.istore_n 1, 1) := by decide +kernel
theorem dX3_countRemovedAhead_2 : decode cX3_countRemovedAhead 2 = .ok (.iconst 0, 1) := by decide +kernel
theorem dX3_countRemovedAhead_3 : decode cX3_countRemovedAhead 3 = .ok (.istore_n 2, 1) := by decide +kernel
theorem dX3_countRemovedAhead_4 : decode cX3_countRemovedAhead 4 = .ok (.iload_n 2, 1) := by decide +kernel
theorem dX3_countRemovedAhead_5 : decode cX3_countRemovedAhead 5 = .ok (.bipush 48, 2) := by decide +kernel
theorem dX3_countRemovedAhead_7 : decode cX3_countRemovedAhead 7 = .ok (.if_icmp .gt 39, 3) := by decide +kernel
theorem dX3_countRemovedAhead_10 : decode cX3_countRemovedAhead 10 = .ok (.aload_n 0, 1) := by decide +kernel
theorem dX3_countRemovedAhead_11 : decode cX3_countRemovedAhead 11 = .ok (.getfield 50, 3) := by decide +kernel
theorem dX3_countRemovedAhead_14 : decode cX3_countRemovedAhead 14 = .ok (.iload_n 2, 1) := by decide +kernel
theorem dX3_countRemovedAhead_15 : decode cX3_countRemovedAhead 15 = .ok (.iload_n 1, 1) := by decide +kernel
theorem dX3_countRemovedAhead_16 : decode cX3_countRemovedAhead 16 = .ok (.iastore, 1) := by decide +kernel
theorem dX3_countRemovedAhead_17 : decode cX3_countRemovedAhead 17 = .ok (.aload_n 0, 1) := by decide +kernel
theorem dX3_countRemovedAhead_18 : decode cX3_countRemovedAhead 18 = .ok (.getfield 19, 3) := by decide +kernel
theorem dX3_countRemovedAhead_21 : decode cX3_countRemovedAhead 21 = .ok (.iload_n 2, 1) := by decide +kernel
theorem dX3_countRemovedAhead_22 : decode cX3_countRemovedAhead 22 = .ok (.invokevirtual 208, 3) := by decide +kernel
theorem dX3_countRemovedAhead_25 : decode cX3_countRemovedAhead 25 = .ok (.ifCond .eq 15, 3) := by decide +kernel
theorem dX3_countRemovedAhead_28 : decode cX3_countRemovedAhead 28 = .ok (.aload_n 0, 1) := by decide +kernel
theorem dX3_countRemovedAhead_29 : decode cX3_countRemovedAhead 29 = .ok (.getfield 33, 3) := by decide +kernel
theorem dX3_countRemovedAhead_32 : decode cX3_countRemovedAhead 32 = .ok (.iload_n 2, 1) := by decide +kernel
theorem dX3_countRemovedAhead_33 : decode cX3_countRemovedAhead 33 = .ok (.baload, 1) := by decide +kernel
theorem dX3_countRemovedAhead_34 : decode cX3_countRemovedAhead 34 = .ok (.ifCond .ne 6, 3) := by decide +kernel
theorem dX3_countRemovedAhead_37 : decode cX3_countRemovedAhead 37 = .ok (.iinc 1 1, 3) := by decide +kernel
theorem dX3_countRemovedAhead_40 : decode cX3_countRemovedAhead 40 = .ok (.iinc 2 1, 3) := by decide +kernel
theorem dX3_countRemovedAhead_43 : decode cX3_countRemovedAhead 43 = .ok (.goto (-39), 3) := by decide +kernel
theorem dX3_countRemovedAhead_46 : decode cX3_countRemovedAhead 46 = .ok (.return_, 1) := by decide +kernel
theorem dX3_renumbered_0 : decode cX3_renumbered 0 = .ok (.iload_n 1, 1) := by decide +kernel
theorem dX3_renumbered_1 : decode cX3_renumbered 1 = .ok (.aload_n 0, 1) := by decide +kernel
theorem dX3_renumbered_2 : decode cX3_renumbered 2 = .ok (.getfield 50, 3) := by decide +kernel
theorem dX3_renumbered_5 : decode cX3_renumbered 5 = .ok (.iload_n 1, 1) := by decide +kernel
theorem dX3_renumbered_6 : decode cX3_renumbered 6 = .ok (.iaload, 1) := by decide +kernel
theorem dX3_renumbered_7 : decode cX3_renumbered 7 = .ok (.isub, 1) := by decide +kernel
theorem dX3_renumbered_8 : decode cX3_renumbered 8 = .ok (.ireturn, 1) := by decide +kernel
set_option maxRecDepth 20000 in
theorem ggX3_sweepTable_X3_renumbered : GoodIn wsX3_sweepTable wsX3_renumbered := goodIn_r _ [6, 7, 21, 22, 23, 24, 25, 26, 27, 28, 29, 30, 31, 32, 33, 34, 35] (by decide +kernel) (by decide +kernel)
set_option maxRecDepth 20000 in
theorem gX3_sweepTable_X3_renumbered : GoodIn wsX3_sweepTable (wsV RX3 284 RX3 yX3_renumbered wsX3_renumbered) := goodIn_app (goodIn_of _ (by decide +kernel)) ggX3_sweepTable_X3_renumbered
set_option maxRecDepth 20000 in
theorem ggX3_sweepTable_X2_delete : GoodIn wsX3_sweepTable wsX2_delete := goodIn_r _ [11, 12, 13, 14, 15, 9, 16, 17, 18, 19, 20, 36, 37, 38, 39, 40] (by decide +kernel) (by decide +kernel)
set_option maxRecDepth 20000 in
theorem gX3_sweepTable_X2_delete_n131 : GoodIn wsX3_sweepTable (wsX2_delete) := ggX3_sweepTable_X2_delete
theorem dX3_sweepTable_0 : decode cX3_sweepTable 0 = .ok (.aload_n 0, 1) := by decide +kernel
theorem dX3_sweepTable_1 : decode cX3_sweepTable 1 = .ok (.getfield 26, 3) := by decide +kernel
theorem dX3_sweepTable_4 : decode cX3_sweepTable 4 = .ok (.getfield 134, 3) := by decide +kernel
theorem dX3_sweepTable_7 : decode cX3_sweepTable 7 = .ok (.iconst 1, 1) := by decide +kernel
theorem dX3_sweepTable_8 : decode cX3_sweepTable 8 = .ok (.isub, 1) := by decide +kernel
theorem dX3_sweepTable_9 : decode cX3_sweepTable 9 = .ok (.istore_n 1, 1) := by decide +kernel
theorem dX3_sweepTable_10 : decode cX3_sweepTable 10 = .ok (.iload_n 1, 1) := by decide +kernel
theorem dX3_sweepTable_11 : decode cX3_sweepTable 11 = .ok (.ifCond .lt 104, 3) := by decide +kernel
theorem dX3_sweepTable_14 : decode cX3_sweepTable 14 = .ok (.aload_n 0, 1) := by decide +kernel
theorem dX3_sweepTable_15 : decode cX3_sweepTable 15 = .ok (.getfield 26, 3) := by decide +kernel
theorem dX3_sweepTable_18 : decode cX3_sweepTable 18 = .ok (.getfield 135, 3) := by decide +kernel
theorem dX3_sweepTable_21 : decode cX3_sweepTable 21 = .ok (.iload_n 1, 1) := by decide +kernel
theorem dX3_sweepTable_22 : decode cX3_sweepTable 22 = .ok (.aload_n 0, 1) := by decide +kernel
theorem dX3_sweepTable_23 : decode cX3_sweepTable 23 = .ok (.aload_n 0, 1) := by decide +kernel
theorem dX3_sweepTable_24 : decode cX3_sweepTable 24 = .ok (.getfield 26, 3) := by decide +kernel
theorem dX3_sweepTable_27 : decode cX3_sweepTable 27 = .ok (.getfield 135, 3) := by decide +kernel
theorem dX3_sweepTable_30 : decode cX3_sweepTable 30 = .ok (.iload_n 1, 1) := by decide +kernel
theorem dX3_sweepTable_31 : decode cX3_sweepTable 31 = .ok (.iaload, 1) := by decide +kernel
theorem dX3_sweepTable_32 : decode cX3_sweepTable 32 = .ok (.invokevirtual 284, 3) := by decide +kernel
theorem dX3_sweepTable_35 : decode cX3_sweepTable 35 = .ok (.iastore, 1) := by decide +kernel
theorem dX3_sweepTable_36 : decode cX3_sweepTable 36 = .ok (.aload_n 0, 1) := by decide +kernel
theorem dX3_sweepTable_37 : decode cX3_sweepTable 37 = .ok (.getfield 26, 3) := by decide +kernel
theorem dX3_sweepTable_40 : decode cX3_sweepTable 40 = .ok (.getfield 138, 3) := by decide +kernel
theorem dX3_sweepTable_43 : decode cX3_sweepTable 43 = .ok (.iload_n 1, 1) := by decide +kernel
theorem dX3_sweepTable_44 : decode cX3_sweepTable 44 = .ok (.aload_n 0, 1) := by decide +kernel
theorem dX3_sweepTable_45 : decode cX3_sweepTable 45 = .ok (.aload_n 0, 1) := by decide +kernel
theorem dX3_sweepTable_46 : decode cX3_sweepTable 46 = .ok (.getfield 26, 3) := by decide +kernel
theorem dX3_sweepTable_49 : decode cX3_sweepTable 49 = .ok (.getfield 138, 3) := by decide +kernel
theorem dX3_sweepTable_52 : decode cX3_sweepTable 52 = .ok (.iload_n 1, 1) := by decide +kernel
theorem dX3_sweepTable_53 : decode cX3_sweepTable 53 = .ok (.iaload, 1) := by decide +kernel
theorem dX3_sweepTable_54 : decode cX3_sweepTable 54 = .ok (.invokevirtual 284, 3) := by decide +kernel
theorem dX3_sweepTable_57 : decode cX3_sweepTable 57 = .ok (.iastore, 1) := by decide +kernel
theorem dX3_sweepTable_58 : decode cX3_sweepTable 58 = .ok (.aload_n 0, 1) := by decide +kernel
theorem dX3_sweepTable_59 : decode cX3_sweepTable 59 = .ok (.getfield 26, 3) := by decide +kernel
theorem dX3_sweepTable_62 : decode cX3_sweepTable 62 = .ok (.getfield 143, 3) := by decide +kernel
theorem dX3_sweepTable_65 : decode cX3_sweepTable 65 = .ok (.iload_n 1, 1) := by decide +kernel
theorem dX3_sweepTable_66 : decode cX3_sweepTable 66 = .ok (.aload_n 0, 1) := by decide +kernel
theorem dX3_sweepTable_67 : decode cX3_sweepTable 67 = .ok (.aload_n 0, 1) := by decide +kernel
theorem dX3_sweepTable_68 : decode cX3_sweepTable 68 = .ok (.getfield 26, 3) := by decide +kernel
theorem dX3_sweepTable_71 : decode cX3_sweepTable 71 = .ok (.getfield 143, 3) := by decide +kernel
theorem dX3_sweepTable_74 : decode cX3_sweepTable 74 = .ok (.iload_n 1, 1) := by decide +kernel
theorem dX3_sweepTable_75 : decode cX3_sweepTable 75 = .ok (.iaload, 1) := by decide +kernel
theorem dX3_sweepTable_76 : decode cX3_sweepTable 76 = .ok (.invokevirtual 284, 3) := by decide +kernel
theorem dX3_sweepTable_79 : decode cX3_sweepTable 79 = .ok (.iastore, 1) := by decide +kernel
theorem dX3_sweepTable_80 : decode cX3_sweepTable 80 = .ok (.aload_n 0, 1) := by decide +kernel
theorem dX3_sweepTable_81 : decode cX3_sweepTable 81 = .ok (.getfield 26, 3) := by decide +kernel
theorem dX3_sweepTable_84 : decode cX3_sweepTable 84 = .ok (.getfield 135, 3) := by decide +kernel
theorem dX3_sweepTable_87 : decode cX3_sweepTable 87 = .ok (.iload_n 1, 1) := by decide +kernel
theorem dX3_sweepTable_88 : decode cX3_sweepTable 88 = .ok (.iaload, 1) := by decide +kernel
theorem dX3_sweepTable_89 : decode cX3_sweepTable 89 = .ok (.aload_n 0, 1) := by decide +kernel
theorem dX3_sweepTable_90 : decode cX3_sweepTable 90 = .ok (.getfield 26, 3) := by decide +kernel
theorem dX3_sweepTable_93 : decode cX3_sweepTable 93 = .ok (.getfield 138, 3) := by decide +kernel
theorem dX3_sweepTable_96 : decode cX3_sweepTable 96 = .ok (.iload_n 1, 1) := by decide +kernel
theorem dX3_sweepTable_97 : decode cX3_sweepTable 97 = .ok (.iaload, 1) := by decide +kernel
theorem dX3_sweepTable_98 : decode cX3_sweepTable 98 = .ok (.if_icmp .lt 11, 3) := by decide +kernel
theorem dX3_sweepTable_101 : decode cX3_sweepTable 101 = .ok (.aload_n 0, 1) := by decide +kernel
theorem dX3_sweepTable_102 : decode cX3_sweepTable 102 = .ok (.getfield 26, 3) := by decide +kernel
theorem dX3_sweepTable_105 : decode cX3_sweepTable 105 = .ok (.iload_n 1, 1) := by decide +kernel
theorem dX3_sweepTable_106 : decode cX3_sweepTable 106 = .ok (.invokevirtual 131, 3) := by decide +kernel
theorem dX3_sweepTable_109 : decode cX3_sweepTable 109 = .ok (.iinc 1 (-1), 3) := by decide +kernel
theorem dX3_sweepTable_112 : decode cX3_sweepTable 112 = .ok (.goto (-102), 3) := by decide +kernel
theorem dX3_sweepTable_115 : decode cX3_sweepTable 115 = .ok (.return_, 1) := by decide +kernel
set_option maxRecDepth 20000 in
theorem ggX3_sweepCode_X3_renumbered : GoodIn wsX3_sweepCode wsX3_renumbered := goodIn_r _ [7, 8, 17, 18, 19, 20, 21, 22, 23, 24, 25, 26, 27, 28, 29, 30, 31] (by decide +kernel) (by decide +kernel)
set_option maxRecDepth 20000 in
theorem gX3_sweepCode_X3_renumbered : GoodIn wsX3_sweepCode (wsV RX3 284 RX3 yX3_renumbered wsX3_renumbered) := goodIn_app (goodIn_of _ (by decide +kernel)) ggX3_sweepCode_X3_renumbered
set_option maxRecDepth 20000 in
theorem ggX3_sweepCode_X0_append : GoodIn wsX3_sweepCode wsX0_append := goodIn_r _ [12, 13, 14, 15, 16, 32, 33, 34, 35] (by decide +kernel) (by decide +kernel)
set_option maxRecDepth 20000 in
theorem gX3_sweepCode_X0_append_n93 : GoodIn wsX3_sweepCode (wsX0_append) := ggX3_sweepCode_X0_append
theorem dX3_sweepCode_0 : decode cX3_sweepCode 0 = .ok (.aload_n 0, 1) := by decide +kernel
theorem dX3_sweepCode_1 : decode cX3_sweepCode 1 = .ok (.getfield 19, 3) := by decide +kernel
theorem dX3_sweepCode_4 : decode cX3_sweepCode 4 = .ok (.getfield 99, 3) := by decide +kernel
theorem dX3_sweepCode_7 : decode cX3_sweepCode 7 = .ok (.istore_n 1, 1) := by decide +kernel
theorem dX3_sweepCode_8 : decode cX3_sweepCode 8 = .ok (.aload_n 0, 1) := by decide +kernel
theorem dX3_sweepCode_9 : decode cX3_sweepCode 9 = .ok (.getfield 19, 3) := by decide +kernel
theorem dX3_sweepCode_12 : decode cX3_sweepCode 12 = .ok (.iconst 0, 1) := by decide +kernel
theorem dX3_sweepCode_13 : decode cX3_sweepCode 13 = .ok (.putfield 99, 3) := by decide +kernel
theorem dX3_sweepCode_16 : decode cX3_sweepCode 16 = .ok (.iconst 0, 1) := by decide +kernel
theorem dX3_sweepCode_17 : decode cX3_sweepCode 17 = .ok (.istore_n 2, 1) := by decide +kernel
theorem dX3_sweepCode_18 : decode cX3_sweepCode 18 = .ok (.iload_n 2, 1) := by decide +kernel
theorem dX3_sweepCode_19 : decode cX3_sweepCode 19 = .ok (.iload_n 1, 1) := by decide +kernel
theorem dX3_sweepCode_20 : decode cX3_sweepCode 20 = .ok (.if_icmp .ge 68, 3) := by decide +kernel
theorem dX3_sweepCode_23 : decode cX3_sweepCode 23 = .ok (.aload_n 0, 1) := by decide +kernel
theorem dX3_sweepCode_24 : decode cX3_sweepCode 24 = .ok (.getfield 33, 3) := by decide +kernel
theorem dX3_sweepCode_27 : decode cX3_sweepCode 27 = .ok (.iload_n 2, 1) := by decide +kernel
theorem dX3_sweepCode_28 : decode cX3_sweepCode 28 = .ok (.baload, 1) := by decide +kernel
theorem dX3_sweepCode_29 : decode cX3_sweepCode 29 = .ok (.ifCond .eq 53, 3) := by decide +kernel
theorem dX3_sweepCode_32 : decode cX3_sweepCode 32 = .ok (.aload_n 0, 1) := by decide +kernel
theorem dX3_sweepCode_33 : decode cX3_sweepCode 33 = .ok (.getfield 19, 3) := by decide +kernel
theorem dX3_sweepCode_36 : decode cX3_sweepCode 36 = .ok (.getfield 109, 3) := by decide +kernel
theorem dX3_sweepCode_39 : decode cX3_sweepCode 39 = .ok (.iload_n 2, 1) := by decide +kernel
theorem dX3_sweepCode_40 : decode cX3_sweepCode 40 = .ok (.iaload, 1) := by decide +kernel
theorem dX3_sweepCode_41 : decode cX3_sweepCode 41 = .ok (.istore_n 3, 1) := by decide +kernel
theorem dX3_sweepCode_42 : decode cX3_sweepCode 42 = .ok (.aload_n 0, 1) := by decide +kernel
theorem dX3_sweepCode_43 : decode cX3_sweepCode 43 = .ok (.getfield 19, 3) := by decide +kernel
theorem dX3_sweepCode_46 : decode cX3_sweepCode 46 = .ok (.aload_n 0, 1) := by decide +kernel
theorem dX3_sweepCode_47 : decode cX3_sweepCode 47 = .ok (.getfield 19, 3) := by decide +kernel
theorem dX3_sweepCode_50 : decode cX3_sweepCode 50 = .ok (.getfield 103, 3) := by decide +kernel
theorem dX3_sweepCode_53 : decode cX3_sweepCode 53 = .ok (.iload_n 2, 1) := by decide +kernel
theorem dX3_sweepCode_54 : decode cX3_sweepCode 54 = .ok (.iaload, 1) := by decide +kernel
theorem dX3_sweepCode_55 : decode cX3_sweepCode 55 = .ok (.aload_n 0, 1) := by decide +kernel
theorem dX3_sweepCode_56 : decode cX3_sweepCode 56 = .ok (.getfield 19, 3) := by decide +kernel
theorem dX3_sweepCode_59 : decode cX3_sweepCode 59 = .ok (.getfield 106, 3) := by decide +kernel
theorem dX3_sweepCode_62 : decode cX3_sweepCode 62 = .ok (.iload_n 2, 1) := by decide +kernel
theorem dX3_sweepCode_63 : decode cX3_sweepCode 63 = .ok (.iaload, 1) := by decide +kernel
theorem dX3_sweepCode_64 : decode cX3_sweepCode 64 = .ok (.iload_n 3, 1) := by decide +kernel
theorem dX3_sweepCode_65 : decode cX3_sweepCode 65 = .ok (.iconst (-1), 1) := by decide +kernel
theorem dX3_sweepCode_66 : decode cX3_sweepCode 66 = .ok (.if_icmp .ne 7, 3) := by decide +kernel
theorem dX3_sweepCode_69 : decode cX3_sweepCode 69 = .ok (.iconst (-1), 1) := by decide +kernel
theorem dX3_sweepCode_70 : decode cX3_sweepCode 70 = .ok (.goto 8, 3) := by decide +kernel
theorem dX3_sweepCode_73 : decode cX3_sweepCode 73 = .ok (.aload_n 0, 1) := by decide +kernel
theorem dX3_sweepCode_74 : decode cX3_sweepCode 74 = .ok (.iload_n 3, 1) := by decide +kernel
theorem dX3_sweepCode_75 : decode cX3_sweepCode 75 = .ok (.invokevirtual 284, 3) := by decide +kernel
theorem dX3_sweepCode_78 : decode cX3_sweepCode 78 = .ok (.invokevirtual 93, 3) := by decide +kernel
theorem dX3_sweepCode_81 : decode cX3_sweepCode 81 = .ok (.pop, 1) := by decide +kernel
theorem dX3_sweepCode_82 : decode cX3_sweepCode 82 = .ok (.iinc 2 1, 3) := by decide +kernel
theorem dX3_sweepCode_85 : decode cX3_sweepCode 85 = .ok (.goto (-67), 3) := by decide +kernel
theorem dX3_sweepCode_88 : decode cX3_sweepCode 88 = .ok (.return_, 1) := by decide +kernel
set_option maxRecDepth 20000 in
theorem ggX3_execute_X0_normalOptions : GoodIn wsX3_execute wsX0_normalOptions := goodIn_r _ [8, 9, 55, 56, 57, 58] (by decide +kernel) (by decide +kernel)
set_option maxRecDepth 20000 in
theorem gX3_execute_X0_normalOptions_n211 : GoodIn wsX3_execute (wsX0_normalOptions) := ggX3_execute_X0_normalOptions
set_option maxRecDepth 20000 in
theorem ggX3_execute_X0_normalNext : GoodIn wsX3_execute wsX0_normalNext := goodIn_r _ [12, 9, 13, 55, 56, 57, 58] (by decide +kernel) (by decide +kernel)
set_option maxRecDepth 20000 in
theorem gX3_execute_X0_normalNext_n287 : GoodIn wsX3_execute (wsX0_normalNext) := ggX3_execute_X0_normalNext
set_option maxRecDepth 20000 in
theorem ggX3_execute_X3_kindOfOption : GoodIn wsX3_execute wsX3_kindOfOption := goodIn_r _ [18, 19, 1, 20, 6, 21, 22, 23, 40, 41, 42, 43, 44, 45, 46, 47, 48, 49, 50, 51, 52, 53, 54, 59, 60, 61, 55, 56, 57, 58] (by decide +kernel) (by decide +kernel)
set_option maxRecDepth 20000 in
theorem gX3_execute_X3_kindOfOption : GoodIn wsX3_execute (wsV RX3 290 RX3 yX3_kindOfOption wsX3_kindOfOption) := goodIn_app (goodIn_of _ (by decide +kernel)) ggX3_execute_X3_kindOfOption
set_option maxRecDepth 20000 in
theorem ggX3_execute_X3_throwFrom : GoodIn wsX3_execute wsX3_throwFrom := goodIn_r _ [27, 3, 4, 28, 29, 19, 30, 31, 32, 33, 34, 35, 36, 37, 38, 39, 40, 41, 42, 43, 44, 45, 46, 47, 48, 49, 50, 51, 52, 53, 54, 62, 63, 64, 65, 66, 59, 60, 61] (by decide +kernel) (by decide +kernel)
set_option maxRecDepth 20000 in
theorem gX3_execute_X3_throwFrom : GoodIn wsX3_execute (wsV RX3 293 RX3 yX3_throwFrom wsX3_throwFrom) := goodIn_app (goodIn_of _ (by decide +kernel)) ggX3_execute_X3_throwFrom
theorem dX3_execute_0 : decode cX3_execute 0 = .ok (.aload_n 0, 1) := by decide +kernel
theorem dX3_execute_1 : decode cX3_execute 1 = .ok (.getfield 19, 3) := by decide +kernel
theorem dX3_execute_4 : decode cX3_execute 4 = .ok (.getfield 103, 3) := by decide +kernel
theorem dX3_execute_7 : decode cX3_execute 7 = .ok (.iload_n 1, 1) := by decide +kernel
theorem dX3_execute_8 : decode cX3_execute 8 = .ok (.iaload, 1) := by decide +kernel
theorem dX3_execute_9 : decode cX3_execute 9 = .ok (.istore_n 3, 1) := by decide +kernel
theorem dX3_execute_10 : decode cX3_execute 10 = .ok (.aload_n 0, 1) := by decide +kernel
theorem dX3_execute_11 : decode cX3_execute 11 = .ok (.dup, 1) := by decide +kernel
theorem dX3_execute_12 : decode cX3_execute 12 = .ok (.getfield 196, 3) := by decide +kernel
theorem dX3_execute_15 : decode cX3_execute 15 = .ok (.iconst 1, 1) := by decide +kernel
theorem dX3_execute_16 : decode cX3_execute 16 = .ok (.iadd, 1) := by decide +kernel
theorem dX3_execute_17 : decode cX3_execute 17 = .ok (.putfield 196, 3) := by decide +kernel
theorem dX3_execute_20 : decode cX3_execute 20 = .ok (.aload_n 0, 1) := by decide +kernel
theorem dX3_execute_21 : decode cX3_execute 21 = .ok (.aload_n 0, 1) := by decide +kernel
theorem dX3_execute_22 : decode cX3_execute 22 = .ok (.getfield 204, 3) := by decide +kernel
theorem dX3_execute_25 : decode cX3_execute 25 = .ok (.ldc2_w 224, 3) := by decide +kernel
theorem dX3_execute_28 : decode cX3_execute 28 = .ok (.lmul, 1) := by decide +kernel
theorem dX3_execute_29 : decode cX3_execute 29 = .ok (.iload_n 3, 1) := by decide +kernel
theorem dX3_execute_30 : decode cX3_execute 30 = .ok (.i2l, 1) := by decide +kernel
theorem dX3_execute_31 : decode cX3_execute 31 = .ok (.ladd, 1) := by decide +kernel
theorem dX3_execute_32 : decode cX3_execute 32 = .ok (.putfield 204, 3) := by decide +kernel
theorem dX3_execute_35 : decode cX3_execute 35 = .ok (.iload_n 3, 1) := by decide +kernel
theorem dX3_execute_36 : decode cX3_execute 36 = .ok (.iconst 3, 1) := by decide +kernel
theorem dX3_execute_37 : decode cX3_execute 37 = .ok (.if_icmp .ne 5, 3) := by decide +kernel
theorem dX3_execute_40 : decode cX3_execute 40 = .ok (.iconst (-1), 1) := by decide +kernel
theorem dX3_execute_41 : decode cX3_execute 41 = .ok (.ireturn, 1) := by decide +kernel
theorem dX3_execute_42 : decode cX3_execute 42 = .ok (.aload_n 0, 1) := by decide +kernel
theorem dX3_execute_43 : decode cX3_execute 43 = .ok (.getfield 19, 3) := by decide +kernel
theorem dX3_execute_46 : decode cX3_execute 46 = .ok (.iload_n 1, 1) := by decide +kernel
theorem dX3_execute_47 : decode cX3_execute 47 = .ok (.invokevirtual 211, 3) := by decide +kernel
theorem dX3_execute_50 : decode cX3_execute 50 = .ok (.istore 4, 2) := by decide +kernel
theorem dX3_execute_52 : decode cX3_execute 52 = .ok (.iload_n 2, 1) := by decide +kernel
theorem dX3_execute_53 : decode cX3_execute 53 = .ok (.iload 4, 2) := by decide +kernel
theorem dX3_execute_55 : decode cX3_execute 55 = .ok (.if_icmp .ge 13, 3) := by decide +kernel
theorem dX3_execute_58 : decode cX3_execute 58 = .ok (.aload_n 0, 1) := by decide +kernel
theorem dX3_execute_59 : decode cX3_execute 59 = .ok (.getfield 19, 3) := by decide +kernel
theorem dX3_execute_62 : decode cX3_execute 62 = .ok (.iload_n 1, 1) := by decide +kernel
theorem dX3_execute_63 : decode cX3_execute 63 = .ok (.iload_n 2, 1) := by decide +kernel
theorem dX3_execute_64 : decode cX3_execute 64 = .ok (.invokevirtual 287, 3) := by decide +kernel
theorem dX3_execute_67 : decode cX3_execute 67 = .ok (.ireturn, 1) := by decide +kernel
theorem dX3_execute_68 : decode cX3_execute 68 = .ok (.aload_n 0, 1) := by decide +kernel
theorem dX3_execute_69 : decode cX3_execute 69 = .ok (.iload_n 1, 1) := by decide +kernel
theorem dX3_execute_70 : decode cX3_execute 70 = .ok (.aload_n 0, 1) := by decide +kernel
theorem dX3_execute_71 : decode cX3_execute 71 = .ok (.iload_n 1, 1) := by decide +kernel
theorem dX3_execute_72 : decode cX3_execute 72 = .ok (.iload_n 2, 1) := by decide +kernel
theorem dX3_execute_73 : decode cX3_execute 73 = .ok (.iload 4, 2) := by decide +kernel
theorem dX3_execute_75 : decode cX3_execute 75 = .ok (.isub, 1) := by decide +kernel
theorem dX3_execute_76 : decode cX3_execute 76 = .ok (.invokevirtual 290, 3) := by decide +kernel
theorem dX3_execute_79 : decode cX3_execute 79 = .ok (.invokevirtual 293, 3) := by decide +kernel
theorem dX3_execute_82 : decode cX3_execute 82 = .ok (.ireturn, 1) := by decide +kernel
set_option maxRecDepth 20000 in
theorem ggX3_kindOfOption_X0_canThrow : GoodIn wsX3_kindOfOption wsX0_canThrow := goodIn_r _ [6, 7, 26, 27, 28, 29] (by decide +kernel) (by decide +kernel)
set_option maxRecDepth 20000 in
theorem gX3_kindOfOption_X0_canThrow_n256 : GoodIn wsX3_kindOfOption (wsX0_canThrow) := ggX3_kindOfOption_X0_canThrow
theorem dX3_kindOfOption_0 : decode cX3_kindOfOption 0 = .ok (.iconst 0, 1) := by decide +kernel
theorem dX3_kindOfOption_1 : decode cX3_kindOfOption 1 = .ok (.istore_n 3, 1) := by decide +kernel
theorem dX3_kindOfOption_2 : decode cX3_kindOfOption 2 = .ok (.iconst 0, 1) := by decide +kernel
theorem dX3_kindOfOption_3 : decode cX3_kindOfOption 3 = .ok (.istore 4, 2) := by decide +kernel
theorem dX3_kindOfOption_5 : decode cX3_kindOfOption 5 = .ok (.iload 4, 2) := by decide +kernel
theorem dX3_kindOfOption_7 : decode cX3_kindOfOption 7 = .ok (.aload_n 0, 1) := by decide +kernel
theorem dX3_kindOfOption_8 : decode cX3_kindOfOption 8 = .ok (.getfield 12, 3) := by decide +kernel
theorem dX3_kindOfOption_11 : decode cX3_kindOfOption 11 = .ok (.getfield 76, 3) := by decide +kernel
theorem dX3_kindOfOption_14 : decode cX3_kindOfOption 14 = .ok (.if_icmp .ge 33, 3) := by decide +kernel
theorem dX3_kindOfOption_17 : decode cX3_kindOfOption 17 = .ok (.aload_n 0, 1) := by decide +kernel
theorem dX3_kindOfOption_18 : decode cX3_kindOfOption 18 = .ok (.getfield 19, 3) := by decide +kernel
theorem dX3_kindOfOption_21 : decode cX3_kindOfOption 21 = .ok (.iload_n 1, 1) := by decide +kernel
theorem dX3_kindOfOption_22 : decode cX3_kindOfOption 22 = .ok (.iload 4, 2) := by decide +kernel
theorem dX3_kindOfOption_24 : decode cX3_kindOfOption 24 = .ok (.invokevirtual 256, 3) := by decide +kernel
theorem dX3_kindOfOption_27 : decode cX3_kindOfOption 27 = .ok (.ifCond .eq 14, 3) := by decide +kernel
theorem dX3_kindOfOption_30 : decode cX3_kindOfOption 30 = .ok (.iload_n 3, 1) := by decide +kernel
theorem dX3_kindOfOption_31 : decode cX3_kindOfOption 31 = .ok (.iload_n 2, 1) := by decide +kernel
theorem dX3_kindOfOption_32 : decode cX3_kindOfOption 32 = .ok (.if_icmp .ne 6, 3) := by decide +kernel
theorem dX3_kindOfOption_35 : decode cX3_kindOfOption 35 = .ok (.iload 4, 2) := by decide +kernel
theorem dX3_kindOfOption_37 : decode cX3_kindOfOption 37 = .ok (.ireturn, 1) := by decide +kernel
theorem dX3_kindOfOption_38 : decode cX3_kindOfOption 38 = .ok (.iinc 3 1, 3) := by decide +kernel
theorem dX3_kindOfOption_41 : decode cX3_kindOfOption 41 = .ok (.iinc 4 1, 3) := by decide +kernel
theorem dX3_kindOfOption_44 : decode cX3_kindOfOption 44 = .ok (.goto (-39), 3) := by decide +kernel
theorem dX3_kindOfOption_47 : decode cX3_kindOfOption 47 = .ok (.iconst 0, 1) := by decide +kernel
theorem dX3_kindOfOption_48 : decode cX3_kindOfOption 48 = .ok (.ireturn, 1) := by decide +kernel
set_option maxRecDepth 20000 in
theorem ggX3_throwFrom_X2_firstTaker : GoodIn wsX3_throwFrom wsX2_firstTaker := goodIn_r _ [11, 12, 13, 14, 15, 31, 32, 33, 34, 35, 36, 37, 38] (by decide +kernel) (by decide +kernel)
set_option maxRecDepth 20000 in
theorem gX3_throwFrom_X2_firstTaker_n146 : GoodIn wsX3_throwFrom (wsX2_firstTaker) := ggX3_throwFrom_X2_firstTaker
theorem dX3_throwFrom_0 : decode cX3_throwFrom 0 = .ok (.aload_n 0, 1) := by decide +kernel
theorem dX3_throwFrom_1 : decode cX3_throwFrom 1 = .ok (.aload_n 0, 1) := by decide +kernel
theorem dX3_throwFrom_2 : decode cX3_throwFrom 2 = .ok (.getfield 204, 3) := by decide +kernel
theorem dX3_throwFrom_5 : decode cX3_throwFrom 5 = .ok (.ldc2_w 224, 3) := by decide +kernel
theorem dX3_throwFrom_8 : decode cX3_throwFrom 8 = .ok (.lmul, 1) := by decide +kernel
theorem dX3_throwFrom_9 : decode cX3_throwFrom 9 = .ok (.ldc2_w 296, 3) := by decide +kernel
theorem dX3_throwFrom_12 : decode cX3_throwFrom 12 = .ok (.ladd, 1) := by decide +kernel
theorem dX3_throwFrom_13 : decode cX3_throwFrom 13 = .ok (.iload_n 2, 1) := by decide +kernel
theorem dX3_throwFrom_14 : decode cX3_throwFrom 14 = .ok (.i2l, 1) := by decide +kernel
theorem dX3_throwFrom_15 : decode cX3_throwFrom 15 = .ok (.ladd, 1) := by decide +kernel
theorem dX3_throwFrom_16 : decode cX3_throwFrom 16 = .ok (.putfield 204, 3) := by decide +kernel
theorem dX3_throwFrom_19 : decode cX3_throwFrom 19 = .ok (.aload_n 0, 1) := by decide +kernel
theorem dX3_throwFrom_20 : decode cX3_throwFrom 20 = .ok (.getfield 26, 3) := by decide +kernel
theorem dX3_throwFrom_23 : decode cX3_throwFrom 23 = .ok (.aload_n 0, 1) := by decide +kernel
theorem dX3_throwFrom_24 : decode cX3_throwFrom 24 = .ok (.getfield 12, 3) := by decide +kernel
theorem dX3_throwFrom_27 : decode cX3_throwFrom 27 = .ok (.iload_n 1, 1) := by decide +kernel
theorem dX3_throwFrom_28 : decode cX3_throwFrom 28 = .ok (.iload_n 2, 1) := by decide +kernel
theorem dX3_throwFrom_29 : decode cX3_throwFrom 29 = .ok (.invokevirtual 146, 3) := by decide +kernel
theorem dX3_throwFrom_32 : decode cX3_throwFrom 32 = .ok (.istore_n 3, 1) := by decide +kernel
theorem dX3_throwFrom_33 : decode cX3_throwFrom 33 = .ok (.iload_n 3, 1) := by decide +kernel
theorem dX3_throwFrom_34 : decode cX3_throwFrom 34 = .ok (.iconst (-1), 1) := by decide +kernel
theorem dX3_throwFrom_35 : decode cX3_throwFrom 35 = .ok (.if_icmp .ne 10, 3) := by decide +kernel
theorem dX3_throwFrom_38 : decode cX3_throwFrom 38 = .ok (.aload_n 0, 1) := by decide +kernel
theorem dX3_throwFrom_39 : decode cX3_throwFrom 39 = .ok (.iload_n 2, 1) := by decide +kernel
theorem dX3_throwFrom_40 : decode cX3_throwFrom 40 = .ok (.putfield 53, 3) := by decide +kernel
theorem dX3_throwFrom_43 : decode cX3_throwFrom 43 = .ok (.iconst (-1), 1) := by decide +kernel
theorem dX3_throwFrom_44 : decode cX3_throwFrom 44 = .ok (.ireturn, 1) := by decide +kernel
theorem dX3_throwFrom_45 : decode cX3_throwFrom 45 = .ok (.aload_n 0, 1) := by decide +kernel
theorem dX3_throwFrom_46 : decode cX3_throwFrom 46 = .ok (.dup, 1) := by decide +kernel
theorem dX3_throwFrom_47 : decode cX3_throwFrom 47 = .ok (.getfield 199, 3) := by decide +kernel
theorem dX3_throwFrom_50 : decode cX3_throwFrom 50 = .ok (.iconst 1, 1) := by decide +kernel
theorem dX3_throwFrom_51 : decode cX3_throwFrom 51 = .ok (.iadd, 1) := by decide +kernel
theorem dX3_throwFrom_52 : decode cX3_throwFrom 52 = .ok (.putfield 199, 3) := by decide +kernel
theorem dX3_throwFrom_55 : decode cX3_throwFrom 55 = .ok (.aload_n 0, 1) := by decide +kernel
theorem dX3_throwFrom_56 : decode cX3_throwFrom 56 = .ok (.getfield 26, 3) := by decide +kernel
theorem dX3_throwFrom_59 : decode cX3_throwFrom 59 = .ok (.getfield 143, 3) := by decide +kernel
theorem dX3_throwFrom_62 : decode cX3_throwFrom 62 = .ok (.iload_n 3, 1) := by decide +kernel
theorem dX3_throwFrom_63 : decode cX3_throwFrom 63 = .ok (.iaload, 1) := by decide +kernel
theorem dX3_throwFrom_64 : decode cX3_throwFrom 64 = .ok (.ireturn, 1) := by decide +kernel

theorem dX0_init_0 : decode cX0_init 0 = .ok (.aload_n 0, 1) := by decide +kernel
theorem dX0_init_1 : decode cX0_init 1 = .ok (.invokespecial 3, 3) := by decide +kernel
theorem dX0_init_4 : decode cX0_init 4 = .ok (.aload_n 0, 1) := by decide +kernel
theorem dX0_init_5 : decode cX0_init 5 = .ok (.bipush 48, 2) := by decide +kernel
theorem dX0_init_7 : decode cX0_init 7 = .ok (.newarray .int, 2) := by decide +kernel
theorem dX0_init_9 : decode cX0_init 9 = .ok (.putfield 9, 3) := by decide +kernel
theorem dX0_init_12 : decode cX0_init 12 = .ok (.aload_n 0, 1) := by decide +kernel
theorem dX0_init_13 : decode cX0_init 13 = .ok (.bipush 48, 2) := by decide +kernel
theorem dX0_init_15 : decode cX0_init 15 = .ok (.newarray .int, 2) := by decide +kernel
theorem dX0_init_17 : decode cX0_init 17 = .ok (.putfield 15, 3) := by decide +kernel
theorem dX0_init_20 : decode cX0_init 20 = .ok (.aload_n 0, 1) := by decide +kernel
theorem dX0_init_21 : decode cX0_init 21 = .ok (.bipush 48, 2) := by decide +kernel
theorem dX0_init_23 : decode cX0_init 23 = .ok (.newarray .int, 2) := by decide +kernel
theorem dX0_init_25 : decode cX0_init 25 = .ok (.putfield 18, 3) := by decide +kernel
theorem dX0_init_28 : decode cX0_init 28 = .ok (.return_, 1) := by decide +kernel
theorem dX0_has_0 : decode cX0_has 0 = .ok (.iload_n 1, 1) := by decide +kernel
theorem dX0_has_1 : decode cX0_has 1 = .ok (.ifCond .lt 15, 3) := by decide +kernel
theorem dX0_has_4 : decode cX0_has 4 = .ok (.iload_n 1, 1) := by decide +kernel
theorem dX0_has_5 : decode cX0_has 5 = .ok (.aload_n 0, 1) := by decide +kernel
theorem dX0_has_6 : decode cX0_has 6 = .ok (.getfield 21, 3) := by decide +kernel
theorem dX0_has_9 : decode cX0_has 9 = .ok (.if_icmp .ge 7, 3) := by decide +kernel
theorem dX0_has_12 : decode cX0_has 12 = .ok (.iconst 1, 1) := by decide +kernel
theorem dX0_has_13 : decode cX0_has 13 = .ok (.goto 4, 3) := by decide +kernel
theorem dX0_has_16 : decode cX0_has 16 = .ok (.iconst 0, 1) := by decide +kernel
theorem dX0_has_17 : decode cX0_has 17 = .ok (.ireturn, 1) := by decide +kernel
theorem dX0_isFull_0 : decode cX0_isFull 0 = .ok (.aload_n 0, 1) := by decide +kernel
theorem dX0_isFull_1 : decode cX0_isFull 1 = .ok (.getfield 21, 3) := by decide +kernel
theorem dX0_isFull_4 : decode cX0_isFull 4 = .ok (.bipush 48, 2) := by decide +kernel
theorem dX0_isFull_6 : decode cX0_isFull 6 = .ok (.if_icmp .lt 7, 3) := by decide +kernel
theorem dX0_isFull_9 : decode cX0_isFull 9 = .ok (.iconst 1, 1) := by decide +kernel
theorem dX0_isFull_10 : decode cX0_isFull 10 = .ok (.goto 4, 3) := by decide +kernel
theorem dX0_isFull_13 : decode cX0_isFull 13 = .ok (.iconst 0, 1) := by decide +kernel
theorem dX0_isFull_14 : decode cX0_isFull 14 = .ok (.ireturn, 1) := by decide +kernel
theorem dX0_append_0 : decode cX0_append 0 = .ok (.aload_n 0, 1) := by decide +kernel
theorem dX0_append_1 : decode cX0_append 1 = .ok (.getfield 21, 3) := by decide +kernel
theorem dX0_append_4 : decode cX0_append 4 = .ok (.istore 4, 2) := by decide +kernel
theorem dX0_append_6 : decode cX0_append 6 = .ok (.aload_n 0, 1) := by decide +kernel
theorem dX0_append_7 : decode cX0_append 7 = .ok (.getfield 9, 3) := by decide +kernel
theorem dX0_append_10 : decode cX0_append 10 = .ok (.iload 4, 2) := by decide +kernel
theorem dX0_append_12 : decode cX0_append 12 = .ok (.iload_n 1, 1) := by decide +kernel
theorem dX0_append_13 : decode cX0_append 13 = .ok (.iastore, 1) := by decide +kernel
theorem dX0_append_14 : decode cX0_append 14 = .ok (.aload_n 0, 1) := by decide +kernel
theorem dX0_append_15 : decode cX0_append 15 = .ok (.getfield 15, 3) := by decide +kernel
theorem dX0_append_18 : decode cX0_append 18 = .ok (.iload 4, 2) := by decide +kernel
theorem dX0_append_20 : decode cX0_append 20 = .ok (.iload_n 2, 1) := by decide +kernel
theorem dX0_append_21 : decode cX0_append 21 = .ok (.iastore, 1) := by decide +kernel
theorem dX0_append_22 : decode cX0_append 22 = .ok (.aload_n 0, 1) := by decide +kernel
theorem dX0_append_23 : decode cX0_append 23 = .ok (.getfield 18, 3) := by decide +kernel
theorem dX0_append_26 : decode cX0_append 26 = .ok (.iload 4, 2) := by decide +kernel
theorem dX0_append_28 : decode cX0_append 28 = .ok (.iload_n 3, 1) := by decide +kernel
theorem dX0_append_29 : decode cX0_append 29 = .ok (.iastore, 1) := by decide +kernel
theorem dX0_append_30 : decode cX0_append 30 = .ok (.aload_n 0, 1) := by decide +kernel
theorem dX0_append_31 : decode cX0_append 31 = .ok (.dup, 1) := by decide +kernel
theorem dX0_append_32 : decode cX0_append 32 = .ok (.getfield 21, 3) := by decide +kernel
theorem dX0_append_35 : decode cX0_append 35 = .ok (.iconst 1, 1) := by decide +kernel
theorem dX0_append_36 : decode cX0_append 36 = .ok (.iadd, 1) := by decide +kernel
theorem dX0_append_37 : decode cX0_append 37 = .ok (.putfield 21, 3) := by decide +kernel
theorem dX0_append_40 : decode cX0_append 40 = .ok (.iload 4, 2) := by decide +kernel
theorem dX0_append_42 : decode cX0_append 42 = .ok (.ireturn, 1) := by decide +kernel
theorem dX0_canThrow_0 : decode cX0_canThrow 0 = .ok (.aload_n 0, 1) := by decide +kernel
theorem dX0_canThrow_1 : decode cX0_canThrow 1 = .ok (.getfield 15, 3) := by decide +kernel
theorem dX0_canThrow_4 : decode cX0_canThrow 4 = .ok (.iload_n 1, 1) := by decide +kernel
theorem dX0_canThrow_5 : decode cX0_canThrow 5 = .ok (.iaload, 1) := by decide +kernel
theorem dX0_canThrow_6 : decode cX0_canThrow 6 = .ok (.iload_n 2, 1) := by decide +kernel
theorem dX0_canThrow_7 : decode cX0_canThrow 7 = .ok (.ishr, 1) := by decide +kernel
theorem dX0_canThrow_8 : decode cX0_canThrow 8 = .ok (.iconst 1, 1) := by decide +kernel
theorem dX0_canThrow_9 : decode cX0_canThrow 9 = .ok (.iand, 1) := by decide +kernel
theorem dX0_canThrow_10 : decode cX0_canThrow 10 = .ok (.ifCond .eq 7, 3) := by decide +kernel
theorem dX0_canThrow_13 : decode cX0_canThrow 13 = .ok (.iconst 1, 1) := by decide +kernel
theorem dX0_canThrow_14 : decode cX0_canThrow 14 = .ok (.goto 4, 3) := by decide +kernel
theorem dX0_canThrow_17 : decode cX0_canThrow 17 = .ok (.iconst 0, 1) := by decide +kernel
theorem dX0_canThrow_18 : decode cX0_canThrow 18 = .ok (.ireturn, 1) := by decide +kernel
theorem dX0_normalOptions_0 : decode cX0_normalOptions 0 = .ok (.aload_n 0, 1) := by decide +kernel
theorem dX0_normalOptions_1 : decode cX0_normalOptions 1 = .ok (.getfield 9, 3) := by decide +kernel
theorem dX0_normalOptions_4 : decode cX0_normalOptions 4 = .ok (.iload_n 1, 1) := by decide +kernel
theorem dX0_normalOptions_5 : decode cX0_normalOptions 5 = .ok (.iaload, 1) := by decide +kernel
theorem dX0_normalOptions_6 : decode cX0_normalOptions 6 = .ok (.lookupswitch 30 #[(2, 26), (4, 28)], 26) := by decide +kernel
theorem dX0_normalOptions_32 : decode cX0_normalOptions 32 = .ok (.iconst 2, 1) := by decide +kernel
theorem dX0_normalOptions_33 : decode cX0_normalOptions 33 = .ok (.ireturn, 1) := by decide +kernel
theorem dX0_normalOptions_34 : decode cX0_normalOptions 34 = .ok (.iconst 0, 1) := by decide +kernel
theorem dX0_normalOptions_35 : decode cX0_normalOptions 35 = .ok (.ireturn, 1) := by decide +kernel
theorem dX0_normalOptions_36 : decode cX0_normalOptions 36 = .ok (.iconst 1, 1) := by decide +kernel
theorem dX0_normalOptions_37 : decode cX0_normalOptions 37 = .ok (.ireturn, 1) := by decide +kernel
theorem dX0_normalNext_0 : decode cX0_normalNext 0 = .ok (.aload_n 0, 1) := by decide +kernel
theorem dX0_normalNext_1 : decode cX0_normalNext 1 = .ok (.getfield 9, 3) := by decide +kernel
theorem dX0_normalNext_4 : decode cX0_normalNext 4 = .ok (.iload_n 1, 1) := by decide +kernel
theorem dX0_normalNext_5 : decode cX0_normalNext 5 = .ok (.iaload, 1) := by decide +kernel
theorem dX0_normalNext_6 : decode cX0_normalNext 6 = .ok (.iconst 1, 1) := by decide +kernel
theorem dX0_normalNext_7 : decode cX0_normalNext 7 = .ok (.if_icmp .eq 7, 3) := by decide +kernel
theorem dX0_normalNext_10 : decode cX0_normalNext 10 = .ok (.iload_n 2, 1) := by decide +kernel
theorem dX0_normalNext_11 : decode cX0_normalNext 11 = .ok (.ifCond .le 7, 3) := by decide +kernel
theorem dX0_normalNext_14 : decode cX0_normalNext 14 = .ok (.iconst 1, 1) := by decide +kernel
theorem dX0_normalNext_15 : decode cX0_normalNext 15 = .ok (.goto 4, 3) := by decide +kernel
theorem dX0_normalNext_18 : decode cX0_normalNext 18 = .ok (.iconst 0, 1) := by decide +kernel
theorem dX0_normalNext_19 : decode cX0_normalNext 19 = .ok (.istore_n 3, 1) := by decide +kernel
theorem dX0_normalNext_20 : decode cX0_normalNext 20 = .ok (.iload_n 3, 1) := by decide +kernel
theorem dX0_normalNext_21 : decode cX0_normalNext 21 = .ok (.ifCond .eq 12, 3) := by decide +kernel
theorem dX0_normalNext_24 : decode cX0_normalNext 24 = .ok (.aload_n 0, 1) := by decide +kernel
theorem dX0_normalNext_25 : decode cX0_normalNext 25 = .ok (.getfield 18, 3) := by decide +kernel
theorem dX0_normalNext_28 : decode cX0_normalNext 28 = .ok (.iload_n 1, 1) := by decide +kernel
theorem dX0_normalNext_29 : decode cX0_normalNext 29 = .ok (.iaload, 1) := by decide +kernel
theorem dX0_normalNext_30 : decode cX0_normalNext 30 = .ok (.goto 6, 3) := by decide +kernel
theorem dX0_normalNext_33 : decode cX0_normalNext 33 = .ok (.iload_n 1, 1) := by decide +kernel
theorem dX0_normalNext_34 : decode cX0_normalNext 34 = .ok (.iconst 1, 1) := by decide +kernel
theorem dX0_normalNext_35 : decode cX0_normalNext 35 = .ok (.iadd, 1) := by decide +kernel
theorem dX0_normalNext_36 : decode cX0_normalNext 36 = .ok (.ireturn, 1) := by decide +kernel
theorem dX1_init_0 : decode cX1_init 0 = .ok (.aload_n 0, 1) := by decide +kernel
theorem dX1_init_1 : decode cX1_init 1 = .ok (.invokespecial 3, 3) := by decide +kernel
theorem dX1_init_4 : decode cX1_init 4 = .ok (.aload_n 0, 1) := by decide +kernel
theorem dX1_init_5 : decode cX1_init 5 = .ok (.bipush 8, 2) := by decide +kernel
theorem dX1_init_7 : decode cX1_init 7 = .ok (.newarray .int, 2) := by decide +kernel
theorem dX1_init_9 : decode cX1_init 9 = .ok (.putfield 9, 3) := by decide +kernel
theorem dX1_init_12 : decode cX1_init 12 = .ok (.aload_n 0, 1) := by decide +kernel
theorem dX1_init_13 : decode cX1_init 13 = .ok (.bipush 8, 2) := by decide +kernel
theorem dX1_init_15 : decode cX1_init 15 = .ok (.newarray .int, 2) := by decide +kernel
theorem dX1_init_17 : decode cX1_init 17 = .ok (.putfield 15, 3) := by decide +kernel
theorem dX1_init_20 : decode cX1_init 20 = .ok (.aload_n 0, 1) := by decide +kernel
theorem dX1_init_21 : decode cX1_init 21 = .ok (.getfield 9, 3) := by decide +kernel
theorem dX1_init_24 : decode cX1_init 24 = .ok (.iconst 0, 1) := by decide +kernel
theorem dX1_init_25 : decode cX1_init 25 = .ok (.iconst (-1), 1) := by decide +kernel
theorem dX1_init_26 : decode cX1_init 26 = .ok (.iastore, 1) := by decide +kernel
theorem dX1_init_27 : decode cX1_init 27 = .ok (.aload_n 0, 1) := by decide +kernel
theorem dX1_init_28 : decode cX1_init 28 = .ok (.getfield 15, 3) := by decide +kernel
theorem dX1_init_31 : decode cX1_init 31 = .ok (.iconst 0, 1) := by decide +kernel
theorem dX1_init_32 : decode cX1_init 32 = .ok (.iconst 1, 1) := by decide +kernel
theorem dX1_init_33 : decode cX1_init 33 = .ok (.iastore, 1) := by decide +kernel
theorem dX1_init_34 : decode cX1_init 34 = .ok (.aload_n 0, 1) := by decide +kernel
theorem dX1_init_35 : decode cX1_init 35 = .ok (.iconst 1, 1) := by decide +kernel
theorem dX1_init_36 : decode cX1_init 36 = .ok (.putfield 18, 3) := by decide +kernel
theorem dX1_init_39 : decode cX1_init 39 = .ok (.return_, 1) := by decide +kernel
theorem dX1_has_0 : decode cX1_has 0 = .ok (.iload_n 1, 1) := by decide +kernel
theorem dX1_has_1 : decode cX1_has 1 = .ok (.ifCond .lt 15, 3) := by decide +kernel
theorem dX1_has_4 : decode cX1_has 4 = .ok (.iload_n 1, 1) := by decide +kernel
theorem dX1_has_5 : decode cX1_has 5 = .ok (.aload_n 0, 1) := by decide +kernel
theorem dX1_has_6 : decode cX1_has 6 = .ok (.getfield 18, 3) := by decide +kernel
theorem dX1_has_9 : decode cX1_has 9 = .ok (.if_icmp .ge 7, 3) := by decide +kernel
theorem dX1_has_12 : decode cX1_has 12 = .ok (.iconst 1, 1) := by decide +kernel
theorem dX1_has_13 : decode cX1_has 13 = .ok (.goto 4, 3) := by decide +kernel
theorem dX1_has_16 : decode cX1_has 16 = .ok (.iconst 0, 1) := by decide +kernel
theorem dX1_has_17 : decode cX1_has 17 = .ok (.ireturn, 1) := by decide +kernel
theorem dX1_hasAll_0 : decode cX1_hasAll 0 = .ok (.iload_n 1, 1) := by decide +kernel
theorem dX1_hasAll_1 : decode cX1_hasAll 1 = .ok (.aload_n 0, 1) := by decide +kernel
theorem dX1_hasAll_2 : decode cX1_hasAll 2 = .ok (.getfield 18, 3) := by decide +kernel
theorem dX1_hasAll_5 : decode cX1_hasAll 5 = .ok (.ishr, 1) := by decide +kernel
theorem dX1_hasAll_6 : decode cX1_hasAll 6 = .ok (.ifCond .ne 7, 3) := by decide +kernel
theorem dX1_hasAll_9 : decode cX1_hasAll 9 = .ok (.iconst 1, 1) := by decide +kernel
theorem dX1_hasAll_10 : decode cX1_hasAll 10 = .ok (.goto 4, 3) := by decide +kernel
theorem dX1_hasAll_13 : decode cX1_hasAll 13 = .ok (.iconst 0, 1) := by decide +kernel
theorem dX1_hasAll_14 : decode cX1_hasAll 14 = .ok (.ireturn, 1) := by decide +kernel
theorem dX1_isFull_0 : decode cX1_isFull 0 = .ok (.aload_n 0, 1) := by decide +kernel
theorem dX1_isFull_1 : decode cX1_isFull 1 = .ok (.getfield 18, 3) := by decide +kernel
theorem dX1_isFull_4 : decode cX1_isFull 4 = .ok (.bipush 8, 2) := by decide +kernel
theorem dX1_isFull_6 : decode cX1_isFull 6 = .ok (.if_icmp .lt 7, 3) := by decide +kernel
theorem dX1_isFull_9 : decode cX1_isFull 9 = .ok (.iconst 1, 1) := by decide +kernel
theorem dX1_isFull_10 : decode cX1_isFull 10 = .ok (.goto 4, 3) := by decide +kernel
theorem dX1_isFull_13 : decode cX1_isFull 13 = .ok (.iconst 0, 1) := by decide +kernel
theorem dX1_isFull_14 : decode cX1_isFull 14 = .ok (.ireturn, 1) := by decide +kernel
set_option maxRecDepth 20000 in
theorem ggX1_append_X1_isInFamily : GoodIn wsX1_append wsX1_isInFamily := goodIn_r _ [8, 2, 9, 10, 11] (by decide +kernel) (by decide +kernel)
set_option maxRecDepth 20000 in
theorem gX1_append_X1_isInFamily : GoodIn wsX1_append (wsV RX1 22 RX1 yX1_isInFamily wsX1_isInFamily) := goodIn_app (goodIn_of _ (by decide +kernel)) ggX1_append_X1_isInFamily
theorem dX1_append_0 : decode cX1_append 0 = .ok (.aload_n 0, 1) := by decide +kernel
theorem dX1_append_1 : decode cX1_append 1 = .ok (.getfield 18, 3) := by decide +kernel
theorem dX1_append_4 : decode cX1_append 4 = .ok (.istore_n 2, 1) := by decide +kernel
theorem dX1_append_5 : decode cX1_append 5 = .ok (.iconst 0, 1) := by decide +kernel
theorem dX1_append_6 : decode cX1_append 6 = .ok (.istore_n 3, 1) := by decide +kernel
theorem dX1_append_7 : decode cX1_append 7 = .ok (.iload_n 3, 1) := by decide +kernel
theorem dX1_append_8 : decode cX1_append 8 = .ok (.iload_n 2, 1) := by decide +kernel
theorem dX1_append_9 : decode cX1_append 9 = .ok (.if_icmp .ge 30, 3) := by decide +kernel
theorem dX1_append_12 : decode cX1_append 12 = .ok (.aload_n 0, 1) := by decide +kernel
theorem dX1_append_13 : decode cX1_append 13 = .ok (.iload_n 1, 1) := by decide +kernel
theorem dX1_append_14 : decode cX1_append 14 = .ok (.iload_n 3, 1) := by decide +kernel
theorem dX1_append_15 : decode cX1_append 15 = .ok (.invokevirtual 22, 3) := by decide +kernel
theorem dX1_append_18 : decode cX1_append 18 = .ok (.ifCond .eq 15, 3) := by decide +kernel
theorem dX1_append_21 : decode cX1_append 21 = .ok (.aload_n 0, 1) := by decide +kernel
theorem dX1_append_22 : decode cX1_append 22 = .ok (.getfield 15, 3) := by decide +kernel
theorem dX1_append_25 : decode cX1_append 25 = .ok (.iload_n 3, 1) := by decide +kernel
theorem dX1_append_26 : decode cX1_append 26 = .ok (.dup2, 1) := by decide +kernel
theorem dX1_append_27 : decode cX1_append 27 = .ok (.iaload, 1) := by decide +kernel
theorem dX1_append_28 : decode cX1_append 28 = .ok (.iconst 1, 1) := by decide +kernel
theorem dX1_append_29 : decode cX1_append 29 = .ok (.iload_n 2, 1) := by decide +kernel
theorem dX1_append_30 : decode cX1_append 30 = .ok (.ishl, 1) := by decide +kernel
theorem dX1_append_31 : decode cX1_append 31 = .ok (.ior, 1) := by decide +kernel
theorem dX1_append_32 : decode cX1_append 32 = .ok (.iastore, 1) := by decide +kernel
theorem dX1_append_33 : decode cX1_append 33 = .ok (.iinc 3 1, 3) := by decide +kernel
theorem dX1_append_36 : decode cX1_append 36 = .ok (.goto (-29), 3) := by decide +kernel
theorem dX1_append_39 : decode cX1_append 39 = .ok (.aload_n 0, 1) := by decide +kernel
theorem dX1_append_40 : decode cX1_append 40 = .ok (.getfield 9, 3) := by decide +kernel
theorem dX1_append_43 : decode cX1_append 43 = .ok (.iload_n 2, 1) := by decide +kernel
theorem dX1_append_44 : decode cX1_append 44 = .ok (.iload_n 1, 1) := by decide +kernel
theorem dX1_append_45 : decode cX1_append 45 = .ok (.iastore, 1) := by decide +kernel
theorem dX1_append_46 : decode cX1_append 46 = .ok (.aload_n 0, 1) := by decide +kernel
theorem dX1_append_47 : decode cX1_append 47 = .ok (.getfield 15, 3) := by decide +kernel
theorem dX1_append_50 : decode cX1_append 50 = .ok (.iload_n 2, 1) := by decide +kernel
theorem dX1_append_51 : decode cX1_append 51 = .ok (.iconst 1, 1) := by decide +kernel
theorem dX1_append_52 : decode cX1_append 52 = .ok (.iload_n 2, 1) := by decide +kernel
theorem dX1_append_53 : decode cX1_append 53 = .ok (.ishl, 1) := by decide +kernel
theorem dX1_append_54 : decode cX1_append 54 = .ok (.iastore, 1) := by decide +kernel
theorem dX1_append_55 : decode cX1_append 55 = .ok (.aload_n 0, 1) := by decide +kernel
theorem dX1_append_56 : decode cX1_append 56 = .ok (.dup, 1) := by decide +kernel
theorem dX1_append_57 : decode cX1_append 57 = .ok (.getfield 18, 3) := by decide +kernel
theorem dX1_append_60 : decode cX1_append 60 = .ok (.iconst 1, 1) := by decide +kernel
theorem dX1_append_61 : decode cX1_append 61 = .ok (.iadd, 1) := by decide +kernel
theorem dX1_append_62 : decode cX1_append 62 = .ok (.putfield 18, 3) := by decide +kernel
theorem dX1_append_65 : decode cX1_append 65 = .ok (.iload_n 2, 1) := by decide +kernel
theorem dX1_append_66 : decode cX1_append 66 = .ok (.ireturn, 1) := by decide +kernel
theorem dX1_isInFamily_0 : decode cX1_isInFamily 0 = .ok (.aload_n 0, 1) := by decide +kernel
theorem dX1_isInFamily_1 : decode cX1_isInFamily 1 = .ok (.getfield 15, 3) := by decide +kernel
theorem dX1_isInFamily_4 : decode cX1_isInFamily 4 = .ok (.iload_n 2, 1) := by decide +kernel
theorem dX1_isInFamily_5 : decode cX1_isInFamily 5 = .ok (.iaload, 1) := by decide +kernel
theorem dX1_isInFamily_6 : decode cX1_isInFamily 6 = .ok (.iload_n 1, 1) := by decide +kernel
theorem dX1_isInFamily_7 : decode cX1_isInFamily 7 = .ok (.ishr, 1) := by decide +kernel
theorem dX1_isInFamily_8 : decode cX1_isInFamily 8 = .ok (.iconst 1, 1) := by decide +kernel
theorem dX1_isInFamily_9 : decode cX1_isInFamily 9 = .ok (.iand, 1) := by decide +kernel
theorem dX1_isInFamily_10 : decode cX1_isInFamily 10 = .ok (.ifCond .eq 7, 3) := by decide +kernel
theorem dX1_isInFamily_13 : decode cX1_isInFamily 13 = .ok (.iconst 1, 1) := by decide +kernel
theorem dX1_isInFamily_14 : decode cX1_isInFamily 14 = .ok (.goto 4, 3) := by decide +kernel
theorem dX1_isInFamily_17 : decode cX1_isInFamily 17 = .ok (.iconst 0, 1) := by decide +kernel
theorem dX1_isInFamily_18 : decode cX1_isInFamily 18 = .ok (.ireturn, 1) := by decide +kernel
set_option maxRecDepth 20000 in
theorem ggX1_lowestAbove_X1_isInFamily : GoodIn wsX1_lowestAbove wsX1_isInFamily := goodIn_r _ [9, 10, 11, 12, 13] (by decide +kernel) (by decide +kernel)
set_option maxRecDepth 20000 in
theorem gX1_lowestAbove_X1_isInFamily : GoodIn wsX1_lowestAbove (wsV RX1 22 RX1 yX1_isInFamily wsX1_isInFamily) := goodIn_app (goodIn_of _ (by decide +kernel)) ggX1_lowestAbove_X1_isInFamily
theorem dX1_lowestAbove_0 : decode cX1_lowestAbove 0 = .ok (.iload_n 1, 1) := by decide +kernel
theorem dX1_lowestAbove_1 : decode cX1_lowestAbove 1 = .ok (.iload_n 2, 1) := by decide +kernel
theorem dX1_lowestAbove_2 : decode cX1_lowestAbove 2 = .ok (.invokestatic 26, 3) := by decide +kernel
theorem dX1_lowestAbove_5 : decode cX1_lowestAbove 5 = .ok (.istore_n 3, 1) := by decide +kernel
theorem dX1_lowestAbove_6 : decode cX1_lowestAbove 6 = .ok (.iload_n 3, 1) := by decide +kernel
theorem dX1_lowestAbove_7 : decode cX1_lowestAbove 7 = .ok (.ifCond .le 29, 3) := by decide +kernel
theorem dX1_lowestAbove_10 : decode cX1_lowestAbove 10 = .ok (.aload_n 0, 1) := by decide +kernel
theorem dX1_lowestAbove_11 : decode cX1_lowestAbove 11 = .ok (.iload_n 1, 1) := by decide +kernel
theorem dX1_lowestAbove_12 : decode cX1_lowestAbove 12 = .ok (.iload_n 3, 1) := by decide +kernel
theorem dX1_lowestAbove_13 : decode cX1_lowestAbove 13 = .ok (.invokevirtual 22, 3) := by decide +kernel
theorem dX1_lowestAbove_16 : decode cX1_lowestAbove 16 = .ok (.ifCond .eq 14, 3) := by decide +kernel
theorem dX1_lowestAbove_19 : decode cX1_lowestAbove 19 = .ok (.aload_n 0, 1) := by decide +kernel
theorem dX1_lowestAbove_20 : decode cX1_lowestAbove 20 = .ok (.iload_n 2, 1) := by decide +kernel
theorem dX1_lowestAbove_21 : decode cX1_lowestAbove 21 = .ok (.iload_n 3, 1) := by decide +kernel
theorem dX1_lowestAbove_22 : decode cX1_lowestAbove 22 = .ok (.invokevirtual 22, 3) := by decide +kernel
theorem dX1_lowestAbove_25 : decode cX1_lowestAbove 25 = .ok (.ifCond .eq 5, 3) := by decide +kernel
theorem dX1_lowestAbove_28 : decode cX1_lowestAbove 28 = .ok (.iload_n 3, 1) := by decide +kernel
theorem dX1_lowestAbove_29 : decode cX1_lowestAbove 29 = .ok (.ireturn, 1) := by decide +kernel
theorem dX1_lowestAbove_30 : decode cX1_lowestAbove 30 = .ok (.iinc 3 (-1), 3) := by decide +kernel
theorem dX1_lowestAbove_33 : decode cX1_lowestAbove 33 = .ok (.goto (-27), 3) := by decide +kernel
theorem dX1_lowestAbove_36 : decode cX1_lowestAbove 36 = .ok (.iconst 0, 1) := by decide +kernel
theorem dX1_lowestAbove_37 : decode cX1_lowestAbove 37 = .ok (.ireturn, 1) := by decide +kernel
theorem dX2_init_0 : decode cX2_init 0 = .ok (.aload_n 0, 1) := by decide +kernel
theorem dX2_init_1 : decode cX2_init 1 = .ok (.invokespecial 3, 3) := by decide +kernel
theorem dX2_init_4 : decode cX2_init 4 = .ok (.aload_n 0, 1) := by decide +kernel
theorem dX2_init_5 : decode cX2_init 5 = .ok (.bipush 24, 2) := by decide +kernel
theorem dX2_init_7 : decode cX2_init 7 = .ok (.newarray .int, 2) := by decide +kernel
theorem dX2_init_9 : decode cX2_init 9 = .ok (.putfield 9, 3) := by decide +kernel
theorem dX2_init_12 : decode cX2_init 12 = .ok (.aload_n 0, 1) := by decide +kernel
theorem dX2_init_13 : decode cX2_init 13 = .ok (.bipush 24, 2) := by decide +kernel
theorem dX2_init_15 : decode cX2_init 15 = .ok (.newarray .int, 2) := by decide +kernel
theorem dX2_init_17 : decode cX2_init 17 = .ok (.putfield 15, 3) := by decide +kernel
theorem dX2_init_20 : decode cX2_init 20 = .ok (.aload_n 0, 1) := by decide +kernel
theorem dX2_init_21 : decode cX2_init 21 = .ok (.bipush 24, 2) := by decide +kernel
theorem dX2_init_23 : decode cX2_init 23 = .ok (.newarray .int, 2) := by decide +kernel
theorem dX2_init_25 : decode cX2_init 25 = .ok (.putfield 18, 3) := by decide +kernel
theorem dX2_init_28 : decode cX2_init 28 = .ok (.aload_n 0, 1) := by decide +kernel
theorem dX2_init_29 : decode cX2_init 29 = .ok (.bipush 24, 2) := by decide +kernel
theorem dX2_init_31 : decode cX2_init 31 = .ok (.newarray .int, 2) := by decide +kernel
theorem dX2_init_33 : decode cX2_init 33 = .ok (.putfield 21, 3) := by decide +kernel
theorem dX2_init_36 : decode cX2_init 36 = .ok (.return_, 1) := by decide +kernel
theorem dX2_has_0 : decode cX2_has 0 = .ok (.iload_n 1, 1) := by decide +kernel
theorem dX2_has_1 : decode cX2_has 1 = .ok (.ifCond .lt 15, 3) := by decide +kernel
theorem dX2_has_4 : decode cX2_has 4 = .ok (.iload_n 1, 1) := by decide +kernel
theorem dX2_has_5 : decode cX2_has 5 = .ok (.aload_n 0, 1) := by decide +kernel
theorem dX2_has_6 : decode cX2_has 6 = .ok (.getfield 24, 3) := by decide +kernel
theorem dX2_has_9 : decode cX2_has 9 = .ok (.if_icmp .ge 7, 3) := by decide +kernel
theorem dX2_has_12 : decode cX2_has 12 = .ok (.iconst 1, 1) := by decide +kernel
theorem dX2_has_13 : decode cX2_has 13 = .ok (.goto 4, 3) := by decide +kernel
theorem dX2_has_16 : decode cX2_has 16 = .ok (.iconst 0, 1) := by decide +kernel
theorem dX2_has_17 : decode cX2_has 17 = .ok (.ireturn, 1) := by decide +kernel
theorem dX2_isFull_0 : decode cX2_isFull 0 = .ok (.aload_n 0, 1) := by decide +kernel
theorem dX2_isFull_1 : decode cX2_isFull 1 = .ok (.getfield 24, 3) := by decide +kernel
theorem dX2_isFull_4 : decode cX2_isFull 4 = .ok (.bipush 24, 2) := by decide +kernel
theorem dX2_isFull_6 : decode cX2_isFull 6 = .ok (.if_icmp .lt 7, 3) := by decide +kernel
theorem dX2_isFull_9 : decode cX2_isFull 9 = .ok (.iconst 1, 1) := by decide +kernel
theorem dX2_isFull_10 : decode cX2_isFull 10 = .ok (.goto 4, 3) := by decide +kernel
theorem dX2_isFull_13 : decode cX2_isFull 13 = .ok (.iconst 0, 1) := by decide +kernel
theorem dX2_isFull_14 : decode cX2_isFull 14 = .ok (.ireturn, 1) := by decide +kernel
theorem dX2_append_0 : decode cX2_append 0 = .ok (.aload_n 0, 1) := by decide +kernel
theorem dX2_append_1 : decode cX2_append 1 = .ok (.getfield 24, 3) := by decide +kernel
theorem dX2_append_4 : decode cX2_append 4 = .ok (.istore 5, 2) := by decide +kernel
theorem dX2_append_6 : decode cX2_append 6 = .ok (.aload_n 0, 1) := by decide +kernel
theorem dX2_append_7 : decode cX2_append 7 = .ok (.getfield 9, 3) := by decide +kernel
theorem dX2_append_10 : decode cX2_append 10 = .ok (.iload 5, 2) := by decide +kernel
theorem dX2_append_12 : decode cX2_append 12 = .ok (.iload_n 1, 1) := by decide +kernel
theorem dX2_append_13 : decode cX2_append 13 = .ok (.iastore, 1) := by decide +kernel
theorem dX2_append_14 : decode cX2_append 14 = .ok (.aload_n 0, 1) := by decide +kernel
theorem dX2_append_15 : decode cX2_append 15 = .ok (.getfield 15, 3) := by decide +kernel
theorem dX2_append_18 : decode cX2_append 18 = .ok (.iload 5, 2) := by decide +kernel
theorem dX2_append_20 : decode cX2_append 20 = .ok (.iload_n 2, 1) := by decide +kernel
theorem dX2_append_21 : decode cX2_append 21 = .ok (.iastore, 1) := by decide +kernel
theorem dX2_append_22 : decode cX2_append 22 = .ok (.aload_n 0, 1) := by decide +kernel
theorem dX2_append_23 : decode cX2_append 23 = .ok (.getfield 18, 3) := by decide +kernel
theorem dX2_append_26 : decode cX2_append 26 = .ok (.iload 5, 2) := by decide +kernel
theorem dX2_append_28 : decode cX2_append 28 = .ok (.iload_n 3, 1) := by decide +kernel
theorem dX2_append_29 : decode cX2_append 29 = .ok (.iastore, 1) := by decide +kernel
theorem dX2_append_30 : decode cX2_append 30 = .ok (.aload_n 0, 1) := by decide +kernel
theorem dX2_append_31 : decode cX2_append 31 = .ok (.getfield 21, 3) := by decide +kernel
theorem dX2_append_34 : decode cX2_append 34 = .ok (.iload 5, 2) := by decide +kernel
theorem dX2_append_36 : decode cX2_append 36 = .ok (.iload 4, 2) := by decide +kernel
theorem dX2_append_38 : decode cX2_append 38 = .ok (.iastore, 1) := by decide +kernel
theorem dX2_append_39 : decode cX2_append 39 = .ok (.aload_n 0, 1) := by decide +kernel
theorem dX2_append_40 : decode cX2_append 40 = .ok (.dup, 1) := by decide +kernel
theorem dX2_append_41 : decode cX2_append 41 = .ok (.getfield 24, 3) := by decide +kernel
theorem dX2_append_44 : decode cX2_append 44 = .ok (.iconst 1, 1) := by decide +kernel
theorem dX2_append_45 : decode cX2_append 45 = .ok (.iadd, 1) := by decide +kernel
theorem dX2_append_46 : decode cX2_append 46 = .ok (.putfield 24, 3) := by decide +kernel
theorem dX2_append_49 : decode cX2_append 49 = .ok (.iload 5, 2) := by decide +kernel
theorem dX2_append_51 : decode cX2_append 51 = .ok (.ireturn, 1) := by decide +kernel
theorem dX2_copyEntry_0 : decode cX2_copyEntry 0 = .ok (.aload_n 0, 1) := by decide +kernel
theorem dX2_copyEntry_1 : decode cX2_copyEntry 1 = .ok (.getfield 9, 3) := by decide +kernel
theorem dX2_copyEntry_4 : decode cX2_copyEntry 4 = .ok (.iload_n 3, 1) := by decide +kernel
theorem dX2_copyEntry_5 : decode cX2_copyEntry 5 = .ok (.aload_n 1, 1) := by decide +kernel
theorem dX2_copyEntry_6 : decode cX2_copyEntry 6 = .ok (.getfield 9, 3) := by decide +kernel
theorem dX2_copyEntry_9 : decode cX2_copyEntry 9 = .ok (.iload_n 2, 1) := by decide +kernel
theorem dX2_copyEntry_10 : decode cX2_copyEntry 10 = .ok (.iaload, 1) := by decide +kernel
theorem dX2_copyEntry_11 : decode cX2_copyEntry 11 = .ok (.iastore, 1) := by decide +kernel
theorem dX2_copyEntry_12 : decode cX2_copyEntry 12 = .ok (.aload_n 0, 1) := by decide +kernel
theorem dX2_copyEntry_13 : decode cX2_copyEntry 13 = .ok (.getfield 15, 3) := by decide +kernel
theorem dX2_copyEntry_16 : decode cX2_copyEntry 16 = .ok (.iload_n 3, 1) := by decide +kernel
theorem dX2_copyEntry_17 : decode cX2_copyEntry 17 = .ok (.aload_n 1, 1) := by decide +kernel
theorem dX2_copyEntry_18 : decode cX2_copyEntry 18 = .ok (.getfield 15, 3) := by decide +kernel
theorem dX2_copyEntry_21 : decode cX2_copyEntry 21 = .ok (.iload_n 2, 1) := by decide +kernel
theorem dX2_copyEntry_22 : decode cX2_copyEntry 22 = .ok (.iaload, 1) := by decide +kernel
theorem dX2_copyEntry_23 : decode cX2_copyEntry 23 = .ok (.iastore, 1) := by decide +kernel
theorem dX2_copyEntry_24 : decode cX2_copyEntry 24 = .ok (.aload_n 0, 1) := by decide +kernel
theorem dX2_copyEntry_25 : decode cX2_copyEntry 25 = .ok (.getfield 18, 3) := by decide +kernel
theorem dX2_copyEntry_28 : decode cX2_copyEntry 28 = .ok (.iload_n 3, 1) := by decide +kernel
theorem dX2_copyEntry_29 : decode cX2_copyEntry 29 = .ok (.aload_n 1, 1) := by decide +kernel
theorem dX2_copyEntry_30 : decode cX2_copyEntry 30 = .ok (.getfield 18, 3) := by decide +kernel
theorem dX2_copyEntry_33 : decode cX2_copyEntry 33 = .ok (.iload_n 2, 1) := by decide +kernel
theorem dX2_copyEntry_34 : decode cX2_copyEntry 34 = .ok (.iaload, 1) := by decide +kernel
theorem dX2_copyEntry_35 : decode cX2_copyEntry 35 = .ok (.iastore, 1) := by decide +kernel
theorem dX2_copyEntry_36 : decode cX2_copyEntry 36 = .ok (.aload_n 0, 1) := by decide +kernel
theorem dX2_copyEntry_37 : decode cX2_copyEntry 37 = .ok (.getfield 21, 3) := by decide +kernel
theorem dX2_copyEntry_40 : decode cX2_copyEntry 40 = .ok (.iload_n 3, 1) := by decide +kernel
theorem dX2_copyEntry_41 : decode cX2_copyEntry 41 = .ok (.aload_n 1, 1) := by decide +kernel
theorem dX2_copyEntry_42 : decode cX2_copyEntry 42 = .ok (.getfield 21, 3) := by decide +kernel
theorem dX2_copyEntry_45 : decode cX2_copyEntry 45 = .ok (.iload_n 2, 1) := by decide +kernel
theorem dX2_copyEntry_46 : decode cX2_copyEntry 46 = .ok (.iaload, 1) := by decide +kernel
theorem dX2_copyEntry_47 : decode cX2_copyEntry 47 = .ok (.iastore, 1) := by decide +kernel
theorem dX2_copyEntry_48 : decode cX2_copyEntry 48 = .ok (.return_, 1) := by decide +kernel
set_option maxRecDepth 20000 in
theorem ggX2_copyAll_X2_copyEntry : GoodIn wsX2_copyAll wsX2_copyEntry := goodIn_r _ [6, 7, 8, 9, 10, 11, 12, 13, 14, 15] (by decide +kernel) (by decide +kernel)
set_option maxRecDepth 20000 in
theorem gX2_copyAll_X2_copyEntry : GoodIn wsX2_copyAll (wsV RX2 28 RX2 yX2_copyEntry wsX2_copyEntry) := goodIn_app (goodIn_of _ (by decide +kernel)) ggX2_copyAll_X2_copyEntry
theorem dX2_copyAll_0 : decode cX2_copyAll 0 = .ok (.iconst 0, 1) := by decide +kernel
theorem dX2_copyAll_1 : decode cX2_copyAll 1 = .ok (.istore_n 2, 1) := by decide +kernel
theorem dX2_copyAll_2 : decode cX2_copyAll 2 = .ok (.iload_n 2, 1) := by decide +kernel
theorem dX2_copyAll_3 : decode cX2_copyAll 3 = .ok (.aload_n 1, 1) := by decide +kernel
theorem dX2_copyAll_4 : decode cX2_copyAll 4 = .ok (.getfield 24, 3) := by decide +kernel
theorem dX2_copyAll_7 : decode cX2_copyAll 7 = .ok (.if_icmp .ge 16, 3) := by decide +kernel
theorem dX2_copyAll_10 : decode cX2_copyAll 10 = .ok (.aload_n 0, 1) := by decide +kernel
theorem dX2_copyAll_11 : decode cX2_copyAll 11 = .ok (.aload_n 1, 1) := by decide +kernel
theorem dX2_copyAll_12 : decode cX2_copyAll 12 = .ok (.iload_n 2, 1) := by decide +kernel
theorem dX2_copyAll_13 : decode cX2_copyAll 13 = .ok (.iload_n 2, 1) := by decide +kernel
theorem dX2_copyAll_14 : decode cX2_copyAll 14 = .ok (.invokevirtual 28, 3) := by decide +kernel
theorem dX2_copyAll_17 : decode cX2_copyAll 17 = .ok (.iinc 2 1, 3) := by decide +kernel
theorem dX2_copyAll_20 : decode cX2_copyAll 20 = .ok (.goto (-18), 3) := by decide +kernel
theorem dX2_copyAll_23 : decode cX2_copyAll 23 = .ok (.aload_n 0, 1) := by decide +kernel
theorem dX2_copyAll_24 : decode cX2_copyAll 24 = .ok (.aload_n 1, 1) := by decide +kernel
theorem dX2_copyAll_25 : decode cX2_copyAll 25 = .ok (.getfield 24, 3) := by decide +kernel
theorem dX2_copyAll_28 : decode cX2_copyAll 28 = .ok (.putfield 24, 3) := by decide +kernel
theorem dX2_copyAll_31 : decode cX2_copyAll 31 = .ok (.return_, 1) := by decide +kernel
set_option maxRecDepth 20000 in
theorem ggX2_delete_X2_copyEntry : GoodIn wsX2_delete wsX2_copyEntry := goodIn_r _ [6, 7, 8, 9, 10, 11, 12, 13, 14, 15] (by decide +kernel) (by decide +kernel)
set_option maxRecDepth 20000 in
theorem gX2_delete_X2_copyEntry : GoodIn wsX2_delete (wsV RX2 28 RX2 yX2_copyEntry wsX2_copyEntry) := goodIn_app (goodIn_of _ (by decide +kernel)) ggX2_delete_X2_copyEntry
theorem dX2_delete_0 : decode cX2_delete 0 = .ok (.iload_n 1, 1) := by decide +kernel
theorem dX2_delete_1 : decode cX2_delete 1 = .ok (.iconst 1, 1) := by decide +kernel
theorem dX2_delete_2 : decode cX2_delete 2 = .ok (.iadd, 1) := by decide +kernel
theorem dX2_delete_3 : decode cX2_delete 3 = .ok (.istore_n 2, 1) := by decide +kernel
theorem dX2_delete_4 : decode cX2_delete 4 = .ok (.iload_n 2, 1) := by decide +kernel
theorem dX2_delete_5 : decode cX2_delete 5 = .ok (.aload_n 0, 1) := by decide +kernel
theorem dX2_delete_6 : decode cX2_delete 6 = .ok (.getfield 24, 3) := by decide +kernel
theorem dX2_delete_9 : decode cX2_delete 9 = .ok (.if_icmp .ge 18, 3) := by decide +kernel
theorem dX2_delete_12 : decode cX2_delete 12 = .ok (.aload_n 0, 1) := by decide +kernel
theorem dX2_delete_13 : decode cX2_delete 13 = .ok (.aload_n 0, 1) := by decide +kernel
theorem dX2_delete_14 : decode cX2_delete 14 = .ok (.iload_n 2, 1) := by decide +kernel
theorem dX2_delete_15 : decode cX2_delete 15 = .ok (.iload_n 2, 1) := by decide +kernel
theorem dX2_delete_16 : decode cX2_delete 16 = .ok (.iconst 1, 1) := by decide +kernel
theorem dX2_delete_17 : decode cX2_delete 17 = .ok (.isub, 1) := by decide +kernel
theorem dX2_delete_18 : decode cX2_delete 18 = .ok (.invokevirtual 28, 3) := by decide +kernel
theorem dX2_delete_21 : decode cX2_delete 21 = .ok (.iinc 2 1, 3) := by decide +kernel
theorem dX2_delete_24 : decode cX2_delete 24 = .ok (.goto (-20), 3) := by decide +kernel
theorem dX2_delete_27 : decode cX2_delete 27 = .ok (.aload_n 0, 1) := by decide +kernel
theorem dX2_delete_28 : decode cX2_delete 28 = .ok (.dup, 1) := by decide +kernel
theorem dX2_delete_29 : decode cX2_delete 29 = .ok (.getfield 24, 3) := by decide +kernel
theorem dX2_delete_32 : decode cX2_delete 32 = .ok (.iconst 1, 1) := by decide +kernel
theorem dX2_delete_33 : decode cX2_delete 33 = .ok (.isub, 1) := by decide +kernel
theorem dX2_delete_34 : decode cX2_delete 34 = .ok (.putfield 24, 3) := by decide +kernel
theorem dX2_delete_37 : decode cX2_delete 37 = .ok (.return_, 1) := by decide +kernel
theorem dX2_firstTaker_0 : decode cX2_firstTaker 0 = .ok (.iconst 0, 1) := by decide +kernel
theorem dX2_firstTaker_1 : decode cX2_firstTaker 1 = .ok (.istore 4, 2) := by decide +kernel
theorem dX2_firstTaker_3 : decode cX2_firstTaker 3 = .ok (.iload 4, 2) := by decide +kernel
theorem dX2_firstTaker_5 : decode cX2_firstTaker 5 = .ok (.aload_n 0, 1) := by decide +kernel
theorem dX2_firstTaker_6 : decode cX2_firstTaker 6 = .ok (.getfield 24, 3) := by decide +kernel
theorem dX2_firstTaker_9 : decode cX2_firstTaker 9 = .ok (.if_icmp .ge 65, 3) := by decide +kernel
theorem dX2_firstTaker_12 : decode cX2_firstTaker 12 = .ok (.aload_n 0, 1) := by decide +kernel
theorem dX2_firstTaker_13 : decode cX2_firstTaker 13 = .ok (.getfield 9, 3) := by decide +kernel
theorem dX2_firstTaker_16 : decode cX2_firstTaker 16 = .ok (.iload 4, 2) := by decide +kernel
theorem dX2_firstTaker_18 : decode cX2_firstTaker 18 = .ok (.iaload, 1) := by decide +kernel
theorem dX2_firstTaker_19 : decode cX2_firstTaker 19 = .ok (.iload_n 2, 1) := by decide +kernel
theorem dX2_firstTaker_20 : decode cX2_firstTaker 20 = .ok (.if_icmp .gt 18, 3) := by decide +kernel
theorem dX2_firstTaker_23 : decode cX2_firstTaker 23 = .ok (.iload_n 2, 1) := by decide +kernel
theorem dX2_firstTaker_24 : decode cX2_firstTaker 24 = .ok (.aload_n 0, 1) := by decide +kernel
theorem dX2_firstTaker_25 : decode cX2_firstTaker 25 = .ok (.getfield 15, 3) := by decide +kernel
theorem dX2_firstTaker_28 : decode cX2_firstTaker 28 = .ok (.iload 4, 2) := by decide +kernel
theorem dX2_firstTaker_30 : decode cX2_firstTaker 30 = .ok (.iaload, 1) := by decide +kernel
theorem dX2_firstTaker_31 : decode cX2_firstTaker 31 = .ok (.if_icmp .ge 7, 3) := by decide +kernel
theorem dX2_firstTaker_34 : decode cX2_firstTaker 34 = .ok (.iconst 1, 1) := by decide +kernel
theorem dX2_firstTaker_35 : decode cX2_firstTaker 35 = .ok (.goto 4, 3) := by decide +kernel
theorem dX2_firstTaker_38 : decode cX2_firstTaker 38 = .ok (.iconst 0, 1) := by decide +kernel
theorem dX2_firstTaker_39 : decode cX2_firstTaker 39 = .ok (.istore 5, 2) := by decide +kernel
theorem dX2_firstTaker_41 : decode cX2_firstTaker 41 = .ok (.iload 5, 2) := by decide +kernel
theorem dX2_firstTaker_43 : decode cX2_firstTaker 43 = .ok (.ifCond .eq 25, 3) := by decide +kernel
theorem dX2_firstTaker_46 : decode cX2_firstTaker 46 = .ok (.aload_n 1, 1) := by decide +kernel
theorem dX2_firstTaker_47 : decode cX2_firstTaker 47 = .ok (.getfield 32, 3) := by decide +kernel
theorem dX2_firstTaker_50 : decode cX2_firstTaker 50 = .ok (.aload_n 0, 1) := by decide +kernel
theorem dX2_firstTaker_51 : decode cX2_firstTaker 51 = .ok (.getfield 18, 3) := by decide +kernel
theorem dX2_firstTaker_54 : decode cX2_firstTaker 54 = .ok (.iload 4, 2) := by decide +kernel
theorem dX2_firstTaker_56 : decode cX2_firstTaker 56 = .ok (.iaload, 1) := by decide +kernel
theorem dX2_firstTaker_57 : decode cX2_firstTaker 57 = .ok (.iaload, 1) := by decide +kernel
theorem dX2_firstTaker_58 : decode cX2_firstTaker 58 = .ok (.iload_n 3, 1) := by decide +kernel
theorem dX2_firstTaker_59 : decode cX2_firstTaker 59 = .ok (.ishr, 1) := by decide +kernel
theorem dX2_firstTaker_60 : decode cX2_firstTaker 60 = .ok (.iconst 1, 1) := by decide +kernel
theorem dX2_firstTaker_61 : decode cX2_firstTaker 61 = .ok (.iand, 1) := by decide +kernel
theorem dX2_firstTaker_62 : decode cX2_firstTaker 62 = .ok (.ifCond .eq 6, 3) := by decide +kernel
theorem dX2_firstTaker_65 : decode cX2_firstTaker 65 = .ok (.iload 4, 2) := by decide +kernel
theorem dX2_firstTaker_67 : decode cX2_firstTaker 67 = .ok (.ireturn, 1) := by decide +kernel
theorem dX2_firstTaker_68 : decode cX2_firstTaker 68 = .ok (.iinc 4 1, 3) := by decide +kernel
theorem dX2_firstTaker_71 : decode cX2_firstTaker 71 = .ok (.goto (-68), 3) := by decide +kernel
theorem dX2_firstTaker_74 : decode cX2_firstTaker 74 = .ok (.iconst (-1), 1) := by decide +kernel
theorem dX2_firstTaker_75 : decode cX2_firstTaker 75 = .ok (.ireturn, 1) := by decide +kernel
set_option maxRecDepth 20000 in
theorem ggX2_goal_X2_firstTaker : GoodIn wsX2_goal wsX2_firstTaker := goodIn_r _ [6, 7, 8, 9, 10, 11, 12, 13, 14, 15, 16, 17, 18] (by decide +kernel) (by decide +kernel)
set_option maxRecDepth 20000 in
theorem gX2_goal_X2_firstTaker : GoodIn wsX2_goal (wsV RX2 37 RX2 yX2_firstTaker wsX2_firstTaker) := goodIn_app (goodIn_of _ (by decide +kernel)) ggX2_goal_X2_firstTaker
theorem dX2_goal_0 : decode cX2_goal 0 = .ok (.aload_n 0, 1) := by decide +kernel
theorem dX2_goal_1 : decode cX2_goal 1 = .ok (.aload_n 1, 1) := by decide +kernel
theorem dX2_goal_2 : decode cX2_goal 2 = .ok (.iload_n 2, 1) := by decide +kernel
theorem dX2_goal_3 : decode cX2_goal 3 = .ok (.iload_n 3, 1) := by decide +kernel
theorem dX2_goal_4 : decode cX2_goal 4 = .ok (.invokevirtual 37, 3) := by decide +kernel
theorem dX2_goal_7 : decode cX2_goal 7 = .ok (.istore 4, 2) := by decide +kernel
theorem dX2_goal_9 : decode cX2_goal 9 = .ok (.iload 4, 2) := by decide +kernel
theorem dX2_goal_11 : decode cX2_goal 11 = .ok (.iconst (-1), 1) := by decide +kernel
theorem dX2_goal_12 : decode cX2_goal 12 = .ok (.if_icmp .ne 7, 3) := by decide +kernel
theorem dX2_goal_15 : decode cX2_goal 15 = .ok (.iconst (-1), 1) := by decide +kernel
theorem dX2_goal_16 : decode cX2_goal 16 = .ok (.goto 10, 3) := by decide +kernel
theorem dX2_goal_19 : decode cX2_goal 19 = .ok (.aload_n 0, 1) := by decide +kernel
theorem dX2_goal_20 : decode cX2_goal 20 = .ok (.getfield 21, 3) := by decide +kernel
theorem dX2_goal_23 : decode cX2_goal 23 = .ok (.iload 4, 2) := by decide +kernel
theorem dX2_goal_25 : decode cX2_goal 25 = .ok (.iaload, 1) := by decide +kernel
theorem dX2_goal_26 : decode cX2_goal 26 = .ok (.ireturn, 1) := by decide +kernel

theorem dX0_init_0 : decode cX0_init 0 = .ok (.aload_n 0, 1) := by decide +kernel
theorem dX0_init_1 : decode cX0_init 1 = .ok (.invokespecial 3, 3) := by decide +kernel
theorem dX0_init_4 : decode cX0_init 4 = .ok (.aload_n 0, 1) := by decide +kernel
theorem dX0_init_5 : decode cX0_init 5 = .ok (.bipush 60, 2) := by decide +kernel
theorem dX0_init_7 : decode cX0_init 7 = .ok (.newarray .int, 2) := by decide +kernel
theorem dX0_init_9 : decode cX0_init 9 = .ok (.putfield 9, 3) := by decide +kernel
theorem dX0_init_12 : decode cX0_init 12 = .ok (.return_, 1) := by decide +kernel
theorem dX0_begin_0 : decode cX0_begin 0 = .ok (.aload_n 0, 1) := by decide +kernel
theorem dX0_begin_1 : decode cX0_begin 1 = .ok (.iconst 1, 1) := by decide +kernel
theorem dX0_begin_2 : decode cX0_begin 2 = .ok (.putfield 15, 3) := by decide +kernel
theorem dX0_begin_5 : decode cX0_begin 5 = .ok (.aload_n 0, 1) := by decide +kernel
theorem dX0_begin_6 : decode cX0_begin 6 = .ok (.iload_n 1, 1) := by decide +kernel
theorem dX0_begin_7 : decode cX0_begin 7 = .ok (.putfield 19, 3) := by decide +kernel
theorem dX0_begin_10 : decode cX0_begin 10 = .ok (.aload_n 0, 1) := by decide +kernel
theorem dX0_begin_11 : decode cX0_begin 11 = .ok (.iload_n 2, 1) := by decide +kernel
theorem dX0_begin_12 : decode cX0_begin 12 = .ok (.putfield 23, 3) := by decide +kernel
theorem dX0_begin_15 : decode cX0_begin 15 = .ok (.iconst 0, 1) := by decide +kernel
theorem dX0_begin_16 : decode cX0_begin 16 = .ok (.istore_n 3, 1) := by decide +kernel
theorem dX0_begin_17 : decode cX0_begin 17 = .ok (.iload_n 3, 1) := by decide +kernel
theorem dX0_begin_18 : decode cX0_begin 18 = .ok (.iload_n 2, 1) := by decide +kernel
theorem dX0_begin_19 : decode cX0_begin 19 = .ok (.if_icmp .ge 22, 3) := by decide +kernel
theorem dX0_begin_22 : decode cX0_begin 22 = .ok (.iload_n 3, 1) := by decide +kernel
theorem dX0_begin_23 : decode cX0_begin 23 = .ok (.bipush 60, 2) := by decide +kernel
theorem dX0_begin_25 : decode cX0_begin 25 = .ok (.if_icmp .ge 16, 3) := by decide +kernel
theorem dX0_begin_28 : decode cX0_begin 28 = .ok (.aload_n 0, 1) := by decide +kernel
theorem dX0_begin_29 : decode cX0_begin 29 = .ok (.getfield 9, 3) := by decide +kernel
theorem dX0_begin_32 : decode cX0_begin 32 = .ok (.iload_n 3, 1) := by decide +kernel
theorem dX0_begin_33 : decode cX0_begin 33 = .ok (.iconst 0, 1) := by decide +kernel
theorem dX0_begin_34 : decode cX0_begin 34 = .ok (.iastore, 1) := by decide +kernel
theorem dX0_begin_35 : decode cX0_begin 35 = .ok (.iinc 3 1, 3) := by decide +kernel
theorem dX0_begin_38 : decode cX0_begin 38 = .ok (.goto (-21), 3) := by decide +kernel
theorem dX0_begin_41 : decode cX0_begin 41 = .ok (.return_, 1) := by decide +kernel
theorem dX0_reaches_0 : decode cX0_reaches 0 = .ok (.iload_n 1, 1) := by decide +kernel
theorem dX0_reaches_1 : decode cX0_reaches 1 = .ok (.aload_n 0, 1) := by decide +kernel
theorem dX0_reaches_2 : decode cX0_reaches 2 = .ok (.getfield 23, 3) := by decide +kernel
theorem dX0_reaches_5 : decode cX0_reaches 5 = .ok (.invokestatic 26, 3) := by decide +kernel
theorem dX0_reaches_8 : decode cX0_reaches 8 = .ok (.ifCond .eq 17, 3) := by decide +kernel
theorem dX0_reaches_11 : decode cX0_reaches 11 = .ok (.iload_n 2, 1) := by decide +kernel
theorem dX0_reaches_12 : decode cX0_reaches 12 = .ok (.aload_n 0, 1) := by decide +kernel
theorem dX0_reaches_13 : decode cX0_reaches 13 = .ok (.getfield 23, 3) := by decide +kernel
theorem dX0_reaches_16 : decode cX0_reaches 16 = .ok (.iload_n 1, 1) := by decide +kernel
theorem dX0_reaches_17 : decode cX0_reaches 17 = .ok (.isub, 1) := by decide +kernel
theorem dX0_reaches_18 : decode cX0_reaches 18 = .ok (.if_icmp .gt 7, 3) := by decide +kernel
theorem dX0_reaches_21 : decode cX0_reaches 21 = .ok (.iconst 1, 1) := by decide +kernel
theorem dX0_reaches_22 : decode cX0_reaches 22 = .ok (.goto 4, 3) := by decide +kernel
theorem dX0_reaches_25 : decode cX0_reaches 25 = .ok (.iconst 0, 1) := by decide +kernel
theorem dX0_reaches_26 : decode cX0_reaches 26 = .ok (.ireturn, 1) := by decide +kernel
theorem dX0_faultOfTaking_0 : decode cX0_faultOfTaking 0 = .ok (.aload_n 0, 1) := by decide +kernel
theorem dX0_faultOfTaking_1 : decode cX0_faultOfTaking 1 = .ok (.getfield 15, 3) := by decide +kernel
theorem dX0_faultOfTaking_4 : decode cX0_faultOfTaking 4 = .ok (.ifCond .eq 13, 3) := by decide +kernel
theorem dX0_faultOfTaking_7 : decode cX0_faultOfTaking 7 = .ok (.aload_n 0, 1) := by decide +kernel
theorem dX0_faultOfTaking_8 : decode cX0_faultOfTaking 8 = .ok (.getfield 19, 3) := by decide +kernel
theorem dX0_faultOfTaking_11 : decode cX0_faultOfTaking 11 = .ok (.iload_n 1, 1) := by decide +kernel
theorem dX0_faultOfTaking_12 : decode cX0_faultOfTaking 12 = .ok (.if_icmp .eq 5, 3) := by decide +kernel
theorem dX0_faultOfTaking_15 : decode cX0_faultOfTaking 15 = .ok (.iconst 2, 1) := by decide +kernel
theorem dX0_faultOfTaking_16 : decode cX0_faultOfTaking 16 = .ok (.ireturn, 1) := by decide +kernel
theorem dX0_faultOfTaking_17 : decode cX0_faultOfTaking 17 = .ok (.aload_n 0, 1) := by decide +kernel
theorem dX0_faultOfTaking_18 : decode cX0_faultOfTaking 18 = .ok (.getfield 15, 3) := by decide +kernel
theorem dX0_faultOfTaking_21 : decode cX0_faultOfTaking 21 = .ok (.ifCond .ne 5, 3) := by decide +kernel
theorem dX0_faultOfTaking_24 : decode cX0_faultOfTaking 24 = .ok (.iconst 1, 1) := by decide +kernel
theorem dX0_faultOfTaking_25 : decode cX0_faultOfTaking 25 = .ok (.ireturn, 1) := by decide +kernel
theorem dX0_faultOfTaking_26 : decode cX0_faultOfTaking 26 = .ok (.iload_n 3, 1) := by decide +kernel
theorem dX0_faultOfTaking_27 : decode cX0_faultOfTaking 27 = .ok (.ifCond .ge 5, 3) := by decide +kernel
theorem dX0_faultOfTaking_30 : decode cX0_faultOfTaking 30 = .ok (.iconst 4, 1) := by decide +kernel
theorem dX0_faultOfTaking_31 : decode cX0_faultOfTaking 31 = .ok (.ireturn, 1) := by decide +kernel
theorem dX0_faultOfTaking_32 : decode cX0_faultOfTaking 32 = .ok (.aload_n 0, 1) := by decide +kernel
theorem dX0_faultOfTaking_33 : decode cX0_faultOfTaking 33 = .ok (.iload_n 2, 1) := by decide +kernel
theorem dX0_faultOfTaking_34 : decode cX0_faultOfTaking 34 = .ok (.iload_n 3, 1) := by decide +kernel
theorem dX0_faultOfTaking_35 : decode cX0_faultOfTaking 35 = .ok (.invokevirtual 30, 3) := by decide +kernel
theorem dX0_faultOfTaking_38 : decode cX0_faultOfTaking 38 = .ok (.ifCond .eq 7, 3) := by decide +kernel
theorem dX0_faultOfTaking_41 : decode cX0_faultOfTaking 41 = .ok (.iconst 0, 1) := by decide +kernel
theorem dX0_faultOfTaking_42 : decode cX0_faultOfTaking 42 = .ok (.goto 4, 3) := by decide +kernel
theorem dX0_faultOfTaking_45 : decode cX0_faultOfTaking 45 = .ok (.iconst 3, 1) := by decide +kernel
theorem dX0_faultOfTaking_46 : decode cX0_faultOfTaking 46 = .ok (.ireturn, 1) := by decide +kernel
theorem dX0_codeAt_0 : decode cX0_codeAt 0 = .ok (.iload_n 1, 1) := by decide +kernel
theorem dX0_codeAt_1 : decode cX0_codeAt 1 = .ok (.aload_n 0, 1) := by decide +kernel
theorem dX0_codeAt_2 : decode cX0_codeAt 2 = .ok (.getfield 23, 3) := by decide +kernel
theorem dX0_codeAt_5 : decode cX0_codeAt 5 = .ok (.invokestatic 33, 3) := by decide +kernel
theorem dX0_codeAt_8 : decode cX0_codeAt 8 = .ok (.ifCond .eq 12, 3) := by decide +kernel
theorem dX0_codeAt_11 : decode cX0_codeAt 11 = .ok (.aload_n 0, 1) := by decide +kernel
theorem dX0_codeAt_12 : decode cX0_codeAt 12 = .ok (.getfield 9, 3) := by decide +kernel
theorem dX0_codeAt_15 : decode cX0_codeAt 15 = .ok (.iload_n 1, 1) := by decide +kernel
theorem dX0_codeAt_16 : decode cX0_codeAt 16 = .ok (.iaload, 1) := by decide +kernel
theorem dX0_codeAt_17 : decode cX0_codeAt 17 = .ok (.goto 5, 3) := by decide +kernel
theorem dX0_codeAt_20 : decode cX0_codeAt 20 = .ok (.bipush (-9), 2) := by decide +kernel
theorem dX0_codeAt_22 : decode cX0_codeAt 22 = .ok (.ireturn, 1) := by decide +kernel
theorem dX0_digitAt_0 : decode cX0_digitAt 0 = .ok (.aload_n 0, 1) := by decide +kernel
theorem dX0_digitAt_1 : decode cX0_digitAt 1 = .ok (.iload_n 1, 1) := by decide +kernel
theorem dX0_digitAt_2 : decode cX0_digitAt 2 = .ok (.invokevirtual 36, 3) := by decide +kernel
theorem dX0_digitAt_5 : decode cX0_digitAt 5 = .ok (.bipush 48, 2) := by decide +kernel
theorem dX0_digitAt_7 : decode cX0_digitAt 7 = .ok (.isub, 1) := by decide +kernel
theorem dX0_digitAt_8 : decode cX0_digitAt 8 = .ok (.ireturn, 1) := by decide +kernel
theorem dX0_standsAt_0 : decode cX0_standsAt 0 = .ok (.iconst 0, 1) := by decide +kernel
theorem dX0_standsAt_1 : decode cX0_standsAt 1 = .ok (.istore_n 3, 1) := by decide +kernel
theorem dX0_standsAt_2 : decode cX0_standsAt 2 = .ok (.iload_n 3, 1) := by decide +kernel
theorem dX0_standsAt_3 : decode cX0_standsAt 3 = .ok (.iconst 4, 1) := by decide +kernel
theorem dX0_standsAt_4 : decode cX0_standsAt 4 = .ok (.if_icmp .ge 24, 3) := by decide +kernel
theorem dX0_standsAt_7 : decode cX0_standsAt 7 = .ok (.aload_n 0, 1) := by decide +kernel
theorem dX0_standsAt_8 : decode cX0_standsAt 8 = .ok (.iload_n 1, 1) := by decide +kernel
theorem dX0_standsAt_9 : decode cX0_standsAt 9 = .ok (.iload_n 3, 1) := by decide +kernel
theorem dX0_standsAt_10 : decode cX0_standsAt 10 = .ok (.iadd, 1) := by decide +kernel
theorem dX0_standsAt_11 : decode cX0_standsAt 11 = .ok (.invokevirtual 36, 3) := by decide +kernel
theorem dX0_standsAt_14 : decode cX0_standsAt 14 = .ok (.aload_n 2, 1) := by decide +kernel
theorem dX0_standsAt_15 : decode cX0_standsAt 15 = .ok (.iload_n 3, 1) := by decide +kernel
theorem dX0_standsAt_16 : decode cX0_standsAt 16 = .ok (.iaload, 1) := by decide +kernel
theorem dX0_standsAt_17 : decode cX0_standsAt 17 = .ok (.if_icmp .eq 5, 3) := by decide +kernel
theorem dX0_standsAt_20 : decode cX0_standsAt 20 = .ok (.iconst 0, 1) := by decide +kernel
theorem dX0_standsAt_21 : decode cX0_standsAt 21 = .ok (.ireturn, 1) := by decide +kernel
theorem dX0_standsAt_22 : decode cX0_standsAt 22 = .ok (.iinc 3 1, 3) := by decide +kernel
theorem dX0_standsAt_25 : decode cX0_standsAt 25 = .ok (.goto (-23), 3) := by decide +kernel
theorem dX0_standsAt_28 : decode cX0_standsAt 28 = .ok (.iconst 1, 1) := by decide +kernel
theorem dX0_standsAt_29 : decode cX0_standsAt 29 = .ok (.ireturn, 1) := by decide +kernel
theorem dX1_init_0 : decode cX1_init 0 = .ok (.aload_n 0, 1) := by decide +kernel
theorem dX1_init_1 : decode cX1_init 1 = .ok (.invokespecial 3, 3) := by decide +kernel
theorem dX1_init_4 : decode cX1_init 4 = .ok (.aload_n 0, 1) := by decide +kernel
theorem dX1_init_5 : decode cX1_init 5 = .ok (.iconst 4, 1) := by decide +kernel
theorem dX1_init_6 : decode cX1_init 6 = .ok (.newarray .int, 2) := by decide +kernel
theorem dX1_init_8 : decode cX1_init 8 = .ok (.putfield 9, 3) := by decide +kernel
theorem dX1_init_11 : decode cX1_init 11 = .ok (.return_, 1) := by decide +kernel
theorem dX1_bearing_0 : decode cX1_bearing 0 = .ok (.aload_n 0, 1) := by decide +kernel
theorem dX1_bearing_1 : decode cX1_bearing 1 = .ok (.getfield 15, 3) := by decide +kernel
theorem dX1_bearing_4 : decode cX1_bearing 4 = .ok (.aload_n 0, 1) := by decide +kernel
theorem dX1_bearing_5 : decode cX1_bearing 5 = .ok (.getfield 19, 3) := by decide +kernel
theorem dX1_bearing_8 : decode cX1_bearing 8 = .ok (.invokestatic 22, 3) := by decide +kernel
theorem dX1_bearing_11 : decode cX1_bearing 11 = .ok (.ireturn, 1) := by decide +kernel
theorem dX1_isMet_0 : decode cX1_isMet 0 = .ok (.aload_n 0, 1) := by decide +kernel
theorem dX1_isMet_1 : decode cX1_isMet 1 = .ok (.getfield 9, 3) := by decide +kernel
theorem dX1_isMet_4 : decode cX1_isMet 4 = .ok (.aload_n 0, 1) := by decide +kernel
theorem dX1_isMet_5 : decode cX1_isMet 5 = .ok (.getfield 26, 3) := by decide +kernel
theorem dX1_isMet_8 : decode cX1_isMet 8 = .ok (.iaload, 1) := by decide +kernel
theorem dX1_isMet_9 : decode cX1_isMet 9 = .ok (.ifCond .ne 7, 3) := by decide +kernel
theorem dX1_isMet_12 : decode cX1_isMet 12 = .ok (.iconst 1, 1) := by decide +kernel
theorem dX1_isMet_13 : decode cX1_isMet 13 = .ok (.goto 4, 3) := by decide +kernel
theorem dX1_isMet_16 : decode cX1_isMet 16 = .ok (.iconst 0, 1) := by decide +kernel
theorem dX1_isMet_17 : decode cX1_isMet 17 = .ok (.ireturn, 1) := by decide +kernel
theorem dX1_worth_0 : decode cX1_worth 0 = .ok (.aload_n 0, 1) := by decide +kernel
theorem dX1_worth_1 : decode cX1_worth 1 = .ok (.getfield 9, 3) := by decide +kernel
theorem dX1_worth_4 : decode cX1_worth 4 = .ok (.invokestatic 29, 3) := by decide +kernel
theorem dX1_worth_7 : decode cX1_worth 7 = .ok (.ireturn, 1) := by decide +kernel
theorem dX1_pieces_0 : decode cX1_pieces 0 = .ok (.iconst 0, 1) := by decide +kernel
theorem dX1_pieces_1 : decode cX1_pieces 1 = .ok (.istore_n 1, 1) := by decide +kernel
theorem dX1_pieces_2 : decode cX1_pieces 2 = .ok (.iconst 0, 1) := by decide +kernel
theorem dX1_pieces_3 : decode cX1_pieces 3 = .ok (.istore_n 2, 1) := by decide +kernel
theorem dX1_pieces_4 : decode cX1_pieces 4 = .ok (.iload_n 2, 1) := by decide +kernel
theorem dX1_pieces_5 : decode cX1_pieces 5 = .ok (.iconst 4, 1) := by decide +kernel
theorem dX1_pieces_6 : decode cX1_pieces 6 = .ok (.if_icmp .ge 18, 3) := by decide +kernel
theorem dX1_pieces_9 : decode cX1_pieces 9 = .ok (.iload_n 1, 1) := by decide +kernel
theorem dX1_pieces_10 : decode cX1_pieces 10 = .ok (.aload_n 0, 1) := by decide +kernel
theorem dX1_pieces_11 : decode cX1_pieces 11 = .ok (.getfield 9, 3) := by decide +kernel
theorem dX1_pieces_14 : decode cX1_pieces 14 = .ok (.iload_n 2, 1) := by decide +kernel
theorem dX1_pieces_15 : decode cX1_pieces 15 = .ok (.iaload, 1) := by decide +kernel
theorem dX1_pieces_16 : decode cX1_pieces 16 = .ok (.iadd, 1) := by decide +kernel
theorem dX1_pieces_17 : decode cX1_pieces 17 = .ok (.istore_n 1, 1) := by decide +kernel
theorem dX1_pieces_18 : decode cX1_pieces 18 = .ok (.iinc 2 1, 3) := by decide +kernel
theorem dX1_pieces_21 : decode cX1_pieces 21 = .ok (.goto (-17), 3) := by decide +kernel
theorem dX1_pieces_24 : decode cX1_pieces 24 = .ok (.iload_n 1, 1) := by decide +kernel
theorem dX1_pieces_25 : decode cX1_pieces 25 = .ok (.ireturn, 1) := by decide +kernel
theorem dX1_goodThatGoes_0 : decode cX1_goodThatGoes 0 = .ok (.aload_n 0, 1) := by decide +kernel
theorem dX1_goodThatGoes_1 : decode cX1_goodThatGoes 1 = .ok (.invokevirtual 33, 3) := by decide +kernel
theorem dX1_goodThatGoes_4 : decode cX1_goodThatGoes 4 = .ok (.ifCond .ne 8, 3) := by decide +kernel
theorem dX1_goodThatGoes_7 : decode cX1_goodThatGoes 7 = .ok (.aload_n 0, 1) := by decide +kernel
theorem dX1_goodThatGoes_8 : decode cX1_goodThatGoes 8 = .ok (.getfield 26, 3) := by decide +kernel
theorem dX1_goodThatGoes_11 : decode cX1_goodThatGoes 11 = .ok (.ireturn, 1) := by decide +kernel
theorem dX1_goodThatGoes_12 : decode cX1_goodThatGoes 12 = .ok (.iconst 0, 1) := by decide +kernel
theorem dX1_goodThatGoes_13 : decode cX1_goodThatGoes 13 = .ok (.istore_n 1, 1) := by decide +kernel
theorem dX1_goodThatGoes_14 : decode cX1_goodThatGoes 14 = .ok (.iload_n 1, 1) := by decide +kernel
theorem dX1_goodThatGoes_15 : decode cX1_goodThatGoes 15 = .ok (.iconst 4, 1) := by decide +kernel
theorem dX1_goodThatGoes_16 : decode cX1_goodThatGoes 16 = .ok (.if_icmp .ge 20, 3) := by decide +kernel
theorem dX1_goodThatGoes_19 : decode cX1_goodThatGoes 19 = .ok (.aload_n 0, 1) := by decide +kernel
theorem dX1_goodThatGoes_20 : decode cX1_goodThatGoes 20 = .ok (.getfield 9, 3) := by decide +kernel
theorem dX1_goodThatGoes_23 : decode cX1_goodThatGoes 23 = .ok (.iload_n 1, 1) := by decide +kernel
theorem dX1_goodThatGoes_24 : decode cX1_goodThatGoes 24 = .ok (.iaload, 1) := by decide +kernel
theorem dX1_goodThatGoes_25 : decode cX1_goodThatGoes 25 = .ok (.ifCond .le 5, 3) := by decide +kernel
theorem dX1_goodThatGoes_28 : decode cX1_goodThatGoes 28 = .ok (.iload_n 1, 1) := by decide +kernel
theorem dX1_goodThatGoes_29 : decode cX1_goodThatGoes 29 = .ok (.ireturn, 1) := by decide +kernel
theorem dX1_goodThatGoes_30 : decode cX1_goodThatGoes 30 = .ok (.iinc 1 1, 3) := by decide +kernel
theorem dX1_goodThatGoes_33 : decode cX1_goodThatGoes 33 = .ok (.goto (-19), 3) := by decide +kernel
theorem dX1_goodThatGoes_36 : decode cX1_goodThatGoes 36 = .ok (.bipush (-9), 2) := by decide +kernel
theorem dX1_goodThatGoes_38 : decode cX1_goodThatGoes 38 = .ok (.ireturn, 1) := by decide +kernel
theorem dX1_doAct_0 : decode cX1_doAct 0 = .ok (.iload_n 1, 1) := by decide +kernel
theorem dX1_doAct_1 : decode cX1_doAct 1 = .ok (.iconst 4, 1) := by decide +kernel
theorem dX1_doAct_2 : decode cX1_doAct 2 = .ok (.if_icmp .ge 7, 3) := by decide +kernel
theorem dX1_doAct_5 : decode cX1_doAct 5 = .ok (.iload_n 1, 1) := by decide +kernel
theorem dX1_doAct_6 : decode cX1_doAct 6 = .ok (.goto 6, 3) := by decide +kernel
theorem dX1_doAct_9 : decode cX1_doAct 9 = .ok (.iload_n 1, 1) := by decide +kernel
theorem dX1_doAct_10 : decode cX1_doAct 10 = .ok (.iconst 4, 1) := by decide +kernel
theorem dX1_doAct_11 : decode cX1_doAct 11 = .ok (.isub, 1) := by decide +kernel
theorem dX1_doAct_12 : decode cX1_doAct 12 = .ok (.istore_n 2, 1) := by decide +kernel
theorem dX1_doAct_13 : decode cX1_doAct 13 = .ok (.iload_n 2, 1) := by decide +kernel
theorem dX1_doAct_14 : decode cX1_doAct 14 = .ok (.invokestatic 37, 3) := by decide +kernel
theorem dX1_doAct_17 : decode cX1_doAct 17 = .ok (.ifCond .eq 23, 3) := by decide +kernel
theorem dX1_doAct_20 : decode cX1_doAct 20 = .ok (.aload_n 0, 1) := by decide +kernel
theorem dX1_doAct_21 : decode cX1_doAct 21 = .ok (.getfield 9, 3) := by decide +kernel
theorem dX1_doAct_24 : decode cX1_doAct 24 = .ok (.iload_n 2, 1) := by decide +kernel
theorem dX1_doAct_25 : decode cX1_doAct 25 = .ok (.iaload, 1) := by decide +kernel
theorem dX1_doAct_26 : decode cX1_doAct 26 = .ok (.iload_n 1, 1) := by decide +kernel
theorem dX1_doAct_27 : decode cX1_doAct 27 = .ok (.iconst 4, 1) := by decide +kernel
theorem dX1_doAct_28 : decode cX1_doAct 28 = .ok (.if_icmp .ge 7, 3) := by decide +kernel
theorem dX1_doAct_31 : decode cX1_doAct 31 = .ok (.iconst 1, 1) := by decide +kernel
theorem dX1_doAct_32 : decode cX1_doAct 32 = .ok (.goto 4, 3) := by decide +kernel
theorem dX1_doAct_35 : decode cX1_doAct 35 = .ok (.iconst (-1), 1) := by decide +kernel
theorem dX1_doAct_36 : decode cX1_doAct 36 = .ok (.iadd, 1) := by decide +kernel
theorem dX1_doAct_37 : decode cX1_doAct 37 = .ok (.goto 5, 3) := by decide +kernel
theorem dX1_doAct_40 : decode cX1_doAct 40 = .ok (.bipush (-9), 2) := by decide +kernel
theorem dX1_doAct_42 : decode cX1_doAct 42 = .ok (.istore_n 3, 1) := by decide +kernel
theorem dX1_doAct_43 : decode cX1_doAct 43 = .ok (.iload_n 3, 1) := by decide +kernel
theorem dX1_doAct_44 : decode cX1_doAct 44 = .ok (.bipush 9, 2) := by decide +kernel
theorem dX1_doAct_46 : decode cX1_doAct 46 = .ok (.invokestatic 41, 3) := by decide +kernel
theorem dX1_doAct_49 : decode cX1_doAct 49 = .ok (.ifCond .ne 5, 3) := by decide +kernel
theorem dX1_doAct_52 : decode cX1_doAct 52 = .ok (.iconst 0, 1) := by decide +kernel
theorem dX1_doAct_53 : decode cX1_doAct 53 = .ok (.ireturn, 1) := by decide +kernel
theorem dX1_doAct_54 : decode cX1_doAct 54 = .ok (.aload_n 0, 1) := by decide +kernel
theorem dX1_doAct_55 : decode cX1_doAct 55 = .ok (.getfield 9, 3) := by decide +kernel
theorem dX1_doAct_58 : decode cX1_doAct 58 = .ok (.iload_n 2, 1) := by decide +kernel
theorem dX1_doAct_59 : decode cX1_doAct 59 = .ok (.iload_n 3, 1) := by decide +kernel
theorem dX1_doAct_60 : decode cX1_doAct 60 = .ok (.iastore, 1) := by decide +kernel
theorem dX1_doAct_61 : decode cX1_doAct 61 = .ok (.iconst 1, 1) := by decide +kernel
theorem dX1_doAct_62 : decode cX1_doAct 62 = .ok (.ireturn, 1) := by decide +kernel
theorem dX1_becomeLike_0 : decode cX1_becomeLike 0 = .ok (.aload_n 0, 1) := by decide +kernel
theorem dX1_becomeLike_1 : decode cX1_becomeLike 1 = .ok (.aload_n 1, 1) := by decide +kernel
theorem dX1_becomeLike_2 : decode cX1_becomeLike 2 = .ok (.getfield 15, 3) := by decide +kernel
theorem dX1_becomeLike_5 : decode cX1_becomeLike 5 = .ok (.putfield 15, 3) := by decide +kernel
theorem dX1_becomeLike_8 : decode cX1_becomeLike 8 = .ok (.aload_n 0, 1) := by decide +kernel
theorem dX1_becomeLike_9 : decode cX1_becomeLike 9 = .ok (.aload_n 1, 1) := by decide +kernel
theorem dX1_becomeLike_10 : decode cX1_becomeLike 10 = .ok (.getfield 26, 3) := by decide +kernel
theorem dX1_becomeLike_13 : decode cX1_becomeLike 13 = .ok (.putfield 26, 3) := by decide +kernel
theorem dX1_becomeLike_16 : decode cX1_becomeLike 16 = .ok (.aload_n 0, 1) := by decide +kernel
theorem dX1_becomeLike_17 : decode cX1_becomeLike 17 = .ok (.aload_n 1, 1) := by decide +kernel
theorem dX1_becomeLike_18 : decode cX1_becomeLike 18 = .ok (.getfield 19, 3) := by decide +kernel
theorem dX1_becomeLike_21 : decode cX1_becomeLike 21 = .ok (.putfield 19, 3) := by decide +kernel
theorem dX1_becomeLike_24 : decode cX1_becomeLike 24 = .ok (.aload_n 0, 1) := by decide +kernel
theorem dX1_becomeLike_25 : decode cX1_becomeLike 25 = .ok (.aload_n 1, 1) := by decide +kernel
theorem dX1_becomeLike_26 : decode cX1_becomeLike 26 = .ok (.getfield 45, 3) := by decide +kernel
theorem dX1_becomeLike_29 : decode cX1_becomeLike 29 = .ok (.putfield 45, 3) := by decide +kernel
theorem dX1_becomeLike_32 : decode cX1_becomeLike 32 = .ok (.aload_n 1, 1) := by decide +kernel
theorem dX1_becomeLike_33 : decode cX1_becomeLike 33 = .ok (.getfield 9, 3) := by decide +kernel
theorem dX1_becomeLike_36 : decode cX1_becomeLike 36 = .ok (.iconst 0, 1) := by decide +kernel
theorem dX1_becomeLike_37 : decode cX1_becomeLike 37 = .ok (.aload_n 0, 1) := by decide +kernel
theorem dX1_becomeLike_38 : decode cX1_becomeLike 38 = .ok (.getfield 9, 3) := by decide +kernel
theorem dX1_becomeLike_41 : decode cX1_becomeLike 41 = .ok (.iconst 0, 1) := by decide +kernel
theorem dX1_becomeLike_42 : decode cX1_becomeLike 42 = .ok (.iconst 4, 1) := by decide +kernel
theorem dX1_becomeLike_43 : decode cX1_becomeLike 43 = .ok (.invokestatic 48, 3) := by decide +kernel
theorem dX1_becomeLike_46 : decode cX1_becomeLike 46 = .ok (.return_, 1) := by decide +kernel
theorem dX2_init_0 : decode cX2_init 0 = .ok (.aload_n 0, 1) := by decide +kernel
theorem dX2_init_1 : decode cX2_init 1 = .ok (.invokespecial 3, 3) := by decide +kernel
theorem dX2_init_4 : decode cX2_init 4 = .ok (.aload_n 0, 1) := by decide +kernel
theorem dX2_init_5 : decode cX2_init 5 = .ok (.iconst 4, 1) := by decide +kernel
theorem dX2_init_6 : decode cX2_init 6 = .ok (.newarray .int, 2) := by decide +kernel
theorem dX2_init_8 : decode cX2_init 8 = .ok (.putfield 9, 3) := by decide +kernel
theorem dX2_init_11 : decode cX2_init 11 = .ok (.aload_n 0, 1) := by decide +kernel
theorem dX2_init_12 : decode cX2_init 12 = .ok (.iconst 4, 1) := by decide +kernel
theorem dX2_init_13 : decode cX2_init 13 = .ok (.newarray .int, 2) := by decide +kernel
theorem dX2_init_15 : decode cX2_init 15 = .ok (.putfield 15, 3) := by decide +kernel
theorem dX2_init_18 : decode cX2_init 18 = .ok (.aload_n 0, 1) := by decide +kernel
theorem dX2_init_19 : decode cX2_init 19 = .ok (.iconst 4, 1) := by decide +kernel
theorem dX2_init_20 : decode cX2_init 20 = .ok (.newarray .int, 2) := by decide +kernel
theorem dX2_init_22 : decode cX2_init 22 = .ok (.putfield 18, 3) := by decide +kernel
theorem dX2_init_25 : decode cX2_init 25 = .ok (.return_, 1) := by decide +kernel
theorem dX2_choose_0 : decode cX2_choose 0 = .ok (.aload_n 0, 1) := by decide +kernel
theorem dX2_choose_1 : decode cX2_choose 1 = .ok (.bipush 49, 2) := by decide +kernel
theorem dX2_choose_3 : decode cX2_choose 3 = .ok (.putfield 21, 3) := by decide +kernel
theorem dX2_choose_6 : decode cX2_choose 6 = .ok (.aload_n 0, 1) := by decide +kernel
theorem dX2_choose_7 : decode cX2_choose 7 = .ok (.iconst 0, 1) := by decide +kernel
theorem dX2_choose_8 : decode cX2_choose 8 = .ok (.putfield 25, 3) := by decide +kernel
theorem dX2_choose_11 : decode cX2_choose 11 = .ok (.iconst 0, 1) := by decide +kernel
theorem dX2_choose_12 : decode cX2_choose 12 = .ok (.istore 4, 2) := by decide +kernel
theorem dX2_choose_14 : decode cX2_choose 14 = .ok (.iload 4, 2) := by decide +kernel
theorem dX2_choose_16 : decode cX2_choose 16 = .ok (.iload_n 1, 1) := by decide +kernel
theorem dX2_choose_17 : decode cX2_choose 17 = .ok (.bipush 9, 2) := by decide +kernel
theorem dX2_choose_19 : decode cX2_choose 19 = .ok (.invokestatic 28, 3) := by decide +kernel
theorem dX2_choose_22 : decode cX2_choose 22 = .ok (.if_icmp .gt 61, 3) := by decide +kernel
theorem dX2_choose_25 : decode cX2_choose 25 = .ok (.aload_n 0, 1) := by decide +kernel
theorem dX2_choose_26 : decode cX2_choose 26 = .ok (.getfield 15, 3) := by decide +kernel
theorem dX2_choose_29 : decode cX2_choose 29 = .ok (.iconst 0, 1) := by decide +kernel
theorem dX2_choose_30 : decode cX2_choose 30 = .ok (.iload 4, 2) := by decide +kernel
theorem dX2_choose_32 : decode cX2_choose 32 = .ok (.iastore, 1) := by decide +kernel
theorem dX2_choose_33 : decode cX2_choose 33 = .ok (.iconst 0, 1) := by decide +kernel
theorem dX2_choose_34 : decode cX2_choose 34 = .ok (.istore 5, 2) := by decide +kernel
theorem dX2_choose_36 : decode cX2_choose 36 = .ok (.iload 5, 2) := by decide +kernel
theorem dX2_choose_38 : decode cX2_choose 38 = .ok (.iload_n 1, 1) := by decide +kernel
theorem dX2_choose_39 : decode cX2_choose 39 = .ok (.iload 4, 2) := by decide +kernel
theorem dX2_choose_41 : decode cX2_choose 41 = .ok (.isub, 1) := by decide +kernel
theorem dX2_choose_42 : decode cX2_choose 42 = .ok (.bipush 9, 2) := by decide +kernel
theorem dX2_choose_44 : decode cX2_choose 44 = .ok (.invokestatic 28, 3) := by decide +kernel
theorem dX2_choose_47 : decode cX2_choose 47 = .ok (.if_icmp .gt 30, 3) := by decide +kernel
theorem dX2_choose_50 : decode cX2_choose 50 = .ok (.aload_n 0, 1) := by decide +kernel
theorem dX2_choose_51 : decode cX2_choose 51 = .ok (.getfield 15, 3) := by decide +kernel
theorem dX2_choose_54 : decode cX2_choose 54 = .ok (.iconst 1, 1) := by decide +kernel
theorem dX2_choose_55 : decode cX2_choose 55 = .ok (.iload 5, 2) := by decide +kernel
theorem dX2_choose_57 : decode cX2_choose 57 = .ok (.iastore, 1) := by decide +kernel
theorem dX2_choose_58 : decode cX2_choose 58 = .ok (.aload_n 0, 1) := by decide +kernel
theorem dX2_choose_59 : decode cX2_choose 59 = .ok (.iload_n 1, 1) := by decide +kernel
theorem dX2_choose_60 : decode cX2_choose 60 = .ok (.iload 4, 2) := by decide +kernel
theorem dX2_choose_62 : decode cX2_choose 62 = .ok (.isub, 1) := by decide +kernel
theorem dX2_choose_63 : decode cX2_choose 63 = .ok (.iload 5, 2) := by decide +kernel
theorem dX2_choose_65 : decode cX2_choose 65 = .ok (.isub, 1) := by decide +kernel
theorem dX2_choose_66 : decode cX2_choose 66 = .ok (.iload_n 2, 1) := by decide +kernel
theorem dX2_choose_67 : decode cX2_choose 67 = .ok (.iload_n 3, 1) := by decide +kernel
theorem dX2_choose_68 : decode cX2_choose 68 = .ok (.invokevirtual 34, 3) := by decide +kernel
theorem dX2_choose_71 : decode cX2_choose 71 = .ok (.iinc 5 1, 3) := by decide +kernel
theorem dX2_choose_74 : decode cX2_choose 74 = .ok (.goto (-38), 3) := by decide +kernel
theorem dX2_choose_77 : decode cX2_choose 77 = .ok (.iinc 4 1, 3) := by decide +kernel
theorem dX2_choose_80 : decode cX2_choose 80 = .ok (.goto (-66), 3) := by decide +kernel
theorem dX2_choose_83 : decode cX2_choose 83 = .ok (.return_, 1) := by decide +kernel
theorem dX2_chooseRest_0 : decode cX2_chooseRest 0 = .ok (.iconst 0, 1) := by decide +kernel
theorem dX2_chooseRest_1 : decode cX2_chooseRest 1 = .ok (.istore 4, 2) := by decide +kernel
theorem dX2_chooseRest_3 : decode cX2_chooseRest 3 = .ok (.iload 4, 2) := by decide +kernel
theorem dX2_chooseRest_5 : decode cX2_chooseRest 5 = .ok (.iload_n 1, 1) := by decide +kernel
theorem dX2_chooseRest_6 : decode cX2_chooseRest 6 = .ok (.bipush 9, 2) := by decide +kernel
theorem dX2_chooseRest_8 : decode cX2_chooseRest 8 = .ok (.invokestatic 28, 3) := by decide +kernel
theorem dX2_chooseRest_11 : decode cX2_chooseRest 11 = .ok (.if_icmp .gt 44, 3) := by decide +kernel
theorem dX2_chooseRest_14 : decode cX2_chooseRest 14 = .ok (.aload_n 0, 1) := by decide +kernel
theorem dX2_chooseRest_15 : decode cX2_chooseRest 15 = .ok (.getfield 15, 3) := by decide +kernel
theorem dX2_chooseRest_18 : decode cX2_chooseRest 18 = .ok (.iconst 2, 1) := by decide +kernel
theorem dX2_chooseRest_19 : decode cX2_chooseRest 19 = .ok (.iload 4, 2) := by decide +kernel
theorem dX2_chooseRest_21 : decode cX2_chooseRest 21 = .ok (.iastore, 1) := by decide +kernel
theorem dX2_chooseRest_22 : decode cX2_chooseRest 22 = .ok (.aload_n 0, 1) := by decide +kernel
theorem dX2_chooseRest_23 : decode cX2_chooseRest 23 = .ok (.getfield 15, 3) := by decide +kernel
theorem dX2_chooseRest_26 : decode cX2_chooseRest 26 = .ok (.iconst 3, 1) := by decide +kernel
theorem dX2_chooseRest_27 : decode cX2_chooseRest 27 = .ok (.iload_n 1, 1) := by decide +kernel
theorem dX2_chooseRest_28 : decode cX2_chooseRest 28 = .ok (.iload 4, 2) := by decide +kernel
theorem dX2_chooseRest_30 : decode cX2_chooseRest 30 = .ok (.isub, 1) := by decide +kernel
theorem dX2_chooseRest_31 : decode cX2_chooseRest 31 = .ok (.iastore, 1) := by decide +kernel
theorem dX2_chooseRest_32 : decode cX2_chooseRest 32 = .ok (.aload_n 0, 1) := by decide +kernel
theorem dX2_chooseRest_33 : decode cX2_chooseRest 33 = .ok (.getfield 15, 3) := by decide +kernel
theorem dX2_chooseRest_36 : decode cX2_chooseRest 36 = .ok (.iconst 3, 1) := by decide +kernel
theorem dX2_chooseRest_37 : decode cX2_chooseRest 37 = .ok (.iaload, 1) := by decide +kernel
theorem dX2_chooseRest_38 : decode cX2_chooseRest 38 = .ok (.bipush 9, 2) := by decide +kernel
theorem dX2_chooseRest_40 : decode cX2_chooseRest 40 = .ok (.if_icmp .gt 9, 3) := by decide +kernel
theorem dX2_chooseRest_43 : decode cX2_chooseRest 43 = .ok (.aload_n 0, 1) := by decide +kernel
theorem dX2_chooseRest_44 : decode cX2_chooseRest 44 = .ok (.iload_n 2, 1) := by decide +kernel
theorem dX2_chooseRest_45 : decode cX2_chooseRest 45 = .ok (.iload_n 3, 1) := by decide +kernel
theorem dX2_chooseRest_46 : decode cX2_chooseRest 46 = .ok (.invokevirtual 38, 3) := by decide +kernel
theorem dX2_chooseRest_49 : decode cX2_chooseRest 49 = .ok (.iinc 4 1, 3) := by decide +kernel
theorem dX2_chooseRest_52 : decode cX2_chooseRest 52 = .ok (.goto (-49), 3) := by decide +kernel
theorem dX2_chooseRest_55 : decode cX2_chooseRest 55 = .ok (.return_, 1) := by decide +kernel
theorem dX2_weigh_0 : decode cX2_weigh 0 = .ok (.aload_n 0, 1) := by decide +kernel
theorem dX2_weigh_1 : decode cX2_weigh 1 = .ok (.getfield 15, 3) := by decide +kernel
theorem dX2_weigh_4 : decode cX2_weigh 4 = .ok (.iload_n 1, 1) := by decide +kernel
theorem dX2_weigh_5 : decode cX2_weigh 5 = .ok (.iload_n 2, 1) := by decide +kernel
theorem dX2_weigh_6 : decode cX2_weigh 6 = .ok (.aload_n 0, 1) := by decide +kernel
theorem dX2_weigh_7 : decode cX2_weigh 7 = .ok (.getfield 18, 3) := by decide +kernel
theorem dX2_weigh_10 : decode cX2_weigh 10 = .ok (.invokestatic 42, 3) := by decide +kernel
theorem dX2_weigh_13 : decode cX2_weigh 13 = .ok (.aload_n 0, 1) := by decide +kernel
theorem dX2_weigh_14 : decode cX2_weigh 14 = .ok (.getfield 18, 3) := by decide +kernel
theorem dX2_weigh_17 : decode cX2_weigh 17 = .ok (.invokestatic 46, 3) := by decide +kernel
theorem dX2_weigh_20 : decode cX2_weigh 20 = .ok (.istore_n 3, 1) := by decide +kernel
theorem dX2_weigh_21 : decode cX2_weigh 21 = .ok (.aload_n 0, 1) := by decide +kernel
theorem dX2_weigh_22 : decode cX2_weigh 22 = .ok (.getfield 15, 3) := by decide +kernel
theorem dX2_weigh_25 : decode cX2_weigh 25 = .ok (.invokestatic 46, 3) := by decide +kernel
theorem dX2_weigh_28 : decode cX2_weigh 28 = .ok (.iload_n 3, 1) := by decide +kernel
theorem dX2_weigh_29 : decode cX2_weigh 29 = .ok (.isub, 1) := by decide +kernel
theorem dX2_weigh_30 : decode cX2_weigh 30 = .ok (.istore 4, 2) := by decide +kernel
theorem dX2_weigh_32 : decode cX2_weigh 32 = .ok (.iload_n 3, 1) := by decide +kernel
theorem dX2_weigh_33 : decode cX2_weigh 33 = .ok (.aload_n 0, 1) := by decide +kernel
theorem dX2_weigh_34 : decode cX2_weigh 34 = .ok (.getfield 21, 3) := by decide +kernel
theorem dX2_weigh_37 : decode cX2_weigh 37 = .ok (.if_icmp .lt 20, 3) := by decide +kernel
theorem dX2_weigh_40 : decode cX2_weigh 40 = .ok (.iload_n 3, 1) := by decide +kernel
theorem dX2_weigh_41 : decode cX2_weigh 41 = .ok (.aload_n 0, 1) := by decide +kernel
theorem dX2_weigh_42 : decode cX2_weigh 42 = .ok (.getfield 21, 3) := by decide +kernel
theorem dX2_weigh_45 : decode cX2_weigh 45 = .ok (.if_icmp .ne 37, 3) := by decide +kernel
theorem dX2_weigh_48 : decode cX2_weigh 48 = .ok (.iload 4, 2) := by decide +kernel
theorem dX2_weigh_50 : decode cX2_weigh 50 = .ok (.aload_n 0, 1) := by decide +kernel
theorem dX2_weigh_51 : decode cX2_weigh 51 = .ok (.getfield 25, 3) := by decide +kernel
theorem dX2_weigh_54 : decode cX2_weigh 54 = .ok (.if_icmp .le 28, 3) := by decide +kernel
theorem dX2_weigh_57 : decode cX2_weigh 57 = .ok (.aload_n 0, 1) := by decide +kernel
theorem dX2_weigh_58 : decode cX2_weigh 58 = .ok (.iload_n 3, 1) := by decide +kernel
theorem dX2_weigh_59 : decode cX2_weigh 59 = .ok (.putfield 21, 3) := by decide +kernel
theorem dX2_weigh_62 : decode cX2_weigh 62 = .ok (.aload_n 0, 1) := by decide +kernel
theorem dX2_weigh_63 : decode cX2_weigh 63 = .ok (.iload 4, 2) := by decide +kernel
theorem dX2_weigh_65 : decode cX2_weigh 65 = .ok (.putfield 25, 3) := by decide +kernel
theorem dX2_weigh_68 : decode cX2_weigh 68 = .ok (.aload_n 0, 1) := by decide +kernel
theorem dX2_weigh_69 : decode cX2_weigh 69 = .ok (.getfield 15, 3) := by decide +kernel
theorem dX2_weigh_72 : decode cX2_weigh 72 = .ok (.iconst 0, 1) := by decide +kernel
theorem dX2_weigh_73 : decode cX2_weigh 73 = .ok (.aload_n 0, 1) := by decide +kernel
theorem dX2_weigh_74 : decode cX2_weigh 74 = .ok (.getfield 9, 3) := by decide +kernel
theorem dX2_weigh_77 : decode cX2_weigh 77 = .ok (.iconst 0, 1) := by decide +kernel
theorem dX2_weigh_78 : decode cX2_weigh 78 = .ok (.iconst 4, 1) := by decide +kernel
theorem dX2_weigh_79 : decode cX2_weigh 79 = .ok (.invokestatic 50, 3) := by decide +kernel
theorem dX2_weigh_82 : decode cX2_weigh 82 = .ok (.return_, 1) := by decide +kernel
theorem dX3_init_0 : decode cX3_init 0 = .ok (.aload_n 0, 1) := by decide +kernel
theorem dX3_init_1 : decode cX3_init 1 = .ok (.invokespecial 3, 3) := by decide +kernel
theorem dX3_init_4 : decode cX3_init 4 = .ok (.return_, 1) := by decide +kernel
theorem dX3_begin_0 : decode cX3_begin 0 = .ok (.aload_n 0, 1) := by decide +kernel
theorem dX3_begin_1 : decode cX3_begin 1 = .ok (.iconst 0, 1) := by decide +kernel
theorem dX3_begin_2 : decode cX3_begin 2 = .ok (.putfield 9, 3) := by decide +kernel
theorem dX3_begin_5 : decode cX3_begin 5 = .ok (.aload_n 0, 1) := by decide +kernel
theorem dX3_begin_6 : decode cX3_begin 6 = .ok (.iconst 0, 1) := by decide +kernel
theorem dX3_begin_7 : decode cX3_begin 7 = .ok (.putfield 15, 3) := by decide +kernel
theorem dX3_begin_10 : decode cX3_begin 10 = .ok (.aload_n 0, 1) := by decide +kernel
theorem dX3_begin_11 : decode cX3_begin 11 = .ok (.bipush (-9), 2) := by decide +kernel
theorem dX3_begin_13 : decode cX3_begin 13 = .ok (.putfield 18, 3) := by decide +kernel
theorem dX3_begin_16 : decode cX3_begin 16 = .ok (.return_, 1) := by decide +kernel
theorem dX3_count_0 : decode cX3_count 0 = .ok (.aload_n 0, 1) := by decide +kernel
theorem dX3_count_1 : decode cX3_count 1 = .ok (.dup, 1) := by decide +kernel
theorem dX3_count_2 : decode cX3_count 2 = .ok (.getfield 9, 3) := by decide +kernel
theorem dX3_count_5 : decode cX3_count 5 = .ok (.iconst 1, 1) := by decide +kernel
theorem dX3_count_6 : decode cX3_count 6 = .ok (.iadd, 1) := by decide +kernel
theorem dX3_count_7 : decode cX3_count 7 = .ok (.putfield 9, 3) := by decide +kernel
theorem dX3_count_10 : decode cX3_count 10 = .ok (.aload_n 0, 1) := by decide +kernel
theorem dX3_count_11 : decode cX3_count 11 = .ok (.dup, 1) := by decide +kernel
theorem dX3_count_12 : decode cX3_count 12 = .ok (.getfield 15, 3) := by decide +kernel
theorem dX3_count_15 : decode cX3_count 15 = .ok (.iload_n 2, 1) := by decide +kernel
theorem dX3_count_16 : decode cX3_count 16 = .ok (.invokestatic 21, 3) := by decide +kernel
theorem dX3_count_19 : decode cX3_count 19 = .ok (.iadd, 1) := by decide +kernel
theorem dX3_count_20 : decode cX3_count 20 = .ok (.putfield 15, 3) := by decide +kernel
theorem dX3_count_23 : decode cX3_count 23 = .ok (.iload_n 3, 1) := by decide +kernel
theorem dX3_count_24 : decode cX3_count 24 = .ok (.ifCond .eq 17, 3) := by decide +kernel
theorem dX3_count_27 : decode cX3_count 27 = .ok (.aload_n 0, 1) := by decide +kernel
theorem dX3_count_28 : decode cX3_count 28 = .ok (.getfield 18, 3) := by decide +kernel
theorem dX3_count_31 : decode cX3_count 31 = .ok (.bipush (-9), 2) := by decide +kernel
theorem dX3_count_33 : decode cX3_count 33 = .ok (.if_icmp .ne 8, 3) := by decide +kernel
theorem dX3_count_36 : decode cX3_count 36 = .ok (.aload_n 0, 1) := by decide +kernel
theorem dX3_count_37 : decode cX3_count 37 = .ok (.iload_n 1, 1) := by decide +kernel
theorem dX3_count_38 : decode cX3_count 38 = .ok (.putfield 18, 3) := by decide +kernel
theorem dX3_count_41 : decode cX3_count 41 = .ok (.return_, 1) := by decide +kernel
theorem dX4_init_0 : decode cX4_init 0 = .ok (.aload_n 0, 1) := by decide +kernel
theorem dX4_init_1 : decode cX4_init 1 = .ok (.invokespecial 5, 3) := by decide +kernel
theorem dX4_init_4 : decode cX4_init 4 = .ok (.aload_n 0, 1) := by decide +kernel
theorem dX4_init_5 : decode cX4_init 5 = .ok (.bipush 6, 2) := by decide +kernel
theorem dX4_init_7 : decode cX4_init 7 = .ok (.newarray .int, 2) := by decide +kernel
theorem dX4_init_9 : decode cX4_init 9 = .ok (.putfield 11, 3) := by decide +kernel
theorem dX4_init_12 : decode cX4_init 12 = .ok (.aload_n 0, 1) := by decide +kernel
theorem dX4_init_13 : decode cX4_init 13 = .ok (.iconst 5, 1) := by decide +kernel
theorem dX4_init_14 : decode cX4_init 14 = .ok (.anewarray 15, 3) := by decide +kernel
theorem dX4_init_17 : decode cX4_init 17 = .ok (.putfield 17, 3) := by decide +kernel
theorem dX4_init_20 : decode cX4_init 20 = .ok (.aload_n 0, 1) := by decide +kernel
theorem dX4_init_21 : decode cX4_init 21 = .ok (.iconst 5, 1) := by decide +kernel
theorem dX4_init_22 : decode cX4_init 22 = .ok (.anewarray 15, 3) := by decide +kernel
theorem dX4_init_25 : decode cX4_init 25 = .ok (.putfield 21, 3) := by decide +kernel
theorem dX4_init_28 : decode cX4_init 28 = .ok (.aload_n 0, 1) := by decide +kernel
theorem dX4_init_29 : decode cX4_init 29 = .ok (.new 24, 3) := by decide +kernel
theorem dX4_init_32 : decode cX4_init 32 = .ok (.dup, 1) := by decide +kernel
theorem dX4_init_33 : decode cX4_init 33 = .ok (.invokespecial 26, 3) := by decide +kernel
theorem dX4_init_36 : decode cX4_init 36 = .ok (.putfield 27, 3) := by decide +kernel
theorem dX4_init_39 : decode cX4_init 39 = .ok (.aload_n 0, 1) := by decide +kernel
theorem dX4_init_40 : decode cX4_init 40 = .ok (.new 31, 3) := by decide +kernel
theorem dX4_init_43 : decode cX4_init 43 = .ok (.dup, 1) := by decide +kernel
theorem dX4_init_44 : decode cX4_init 44 = .ok (.invokespecial 33, 3) := by decide +kernel
theorem dX4_init_47 : decode cX4_init 47 = .ok (.putfield 34, 3) := by decide +kernel
theorem dX4_init_50 : decode cX4_init 50 = .ok (.aload_n 0, 1) := by decide +kernel
theorem dX4_init_51 : decode cX4_init 51 = .ok (.iconst 4, 1) := by decide +kernel
theorem dX4_init_52 : decode cX4_init 52 = .ok (.newarray .int, 2) := by decide +kernel
theorem dX4_init_54 : decode cX4_init 54 = .ok (.putfield 38, 3) := by decide +kernel
theorem dX4_init_57 : decode cX4_init 57 = .ok (.aload_n 0, 1) := by decide +kernel
theorem dX4_init_58 : decode cX4_init 58 = .ok (.bipush 8, 2) := by decide +kernel
theorem dX4_init_60 : decode cX4_init 60 = .ok (.newarray .int, 2) := by decide +kernel
theorem dX4_init_62 : decode cX4_init 62 = .ok (.putfield 41, 3) := by decide +kernel
theorem dX4_init_65 : decode cX4_init 65 = .ok (.aload_n 0, 1) := by decide +kernel
theorem dX4_init_66 : decode cX4_init 66 = .ok (.bipush 8, 2) := by decide +kernel
theorem dX4_init_68 : decode cX4_init 68 = .ok (.newarray .int, 2) := by decide +kernel
theorem dX4_init_70 : decode cX4_init 70 = .ok (.putfield 44, 3) := by decide +kernel
theorem dX4_init_73 : decode cX4_init 73 = .ok (.aload_n 0, 1) := by decide +kernel
theorem dX4_init_74 : decode cX4_init 74 = .ok (.bipush 8, 2) := by decide +kernel
theorem dX4_init_76 : decode cX4_init 76 = .ok (.newarray .int, 2) := by decide +kernel
theorem dX4_init_78 : decode cX4_init 78 = .ok (.putfield 47, 3) := by decide +kernel
theorem dX4_init_81 : decode cX4_init 81 = .ok (.aload_n 0, 1) := by decide +kernel
theorem dX4_init_82 : decode cX4_init 82 = .ok (.iconst 4, 1) := by decide +kernel
theorem dX4_init_83 : decode cX4_init 83 = .ok (.anewarray 50, 3) := by decide +kernel
theorem dX4_init_86 : decode cX4_init 86 = .ok (.putfield 52, 3) := by decide +kernel
theorem dX4_init_89 : decode cX4_init 89 = .ok (.iconst 0, 1) := by decide +kernel
theorem dX4_init_90 : decode cX4_init 90 = .ok (.istore_n 1, 1) := by decide +kernel
theorem dX4_init_91 : decode cX4_init 91 = .ok (.iload_n 1, 1) := by decide +kernel
theorem dX4_init_92 : decode cX4_init 92 = .ok (.iconst 5, 1) := by decide +kernel
theorem dX4_init_93 : decode cX4_init 93 = .ok (.if_icmp .ge 35, 3) := by decide +kernel
theorem dX4_init_96 : decode cX4_init 96 = .ok (.aload_n 0, 1) := by decide +kernel
theorem dX4_init_97 : decode cX4_init 97 = .ok (.getfield 17, 3) := by decide +kernel
theorem dX4_init_100 : decode cX4_init 100 = .ok (.iload_n 1, 1) := by decide +kernel
theorem dX4_init_101 : decode cX4_init 101 = .ok (.new 15, 3) := by decide +kernel
theorem dX4_init_104 : decode cX4_init 104 = .ok (.dup, 1) := by decide +kernel
theorem dX4_init_105 : decode cX4_init 105 = .ok (.invokespecial 56, 3) := by decide +kernel
theorem dX4_init_108 : decode cX4_init 108 = .ok (.aastore, 1) := by decide +kernel
theorem dX4_init_109 : decode cX4_init 109 = .ok (.aload_n 0, 1) := by decide +kernel
theorem dX4_init_110 : decode cX4_init 110 = .ok (.getfield 21, 3) := by decide +kernel
theorem dX4_init_113 : decode cX4_init 113 = .ok (.iload_n 1, 1) := by decide +kernel
theorem dX4_init_114 : decode cX4_init 114 = .ok (.new 15, 3) := by decide +kernel
theorem dX4_init_117 : decode cX4_init 117 = .ok (.dup, 1) := by decide +kernel
theorem dX4_init_118 : decode cX4_init 118 = .ok (.invokespecial 56, 3) := by decide +kernel
theorem dX4_init_121 : decode cX4_init 121 = .ok (.aastore, 1) := by decide +kernel
theorem dX4_init_122 : decode cX4_init 122 = .ok (.iinc 1 1, 3) := by decide +kernel
theorem dX4_init_125 : decode cX4_init 125 = .ok (.goto (-34), 3) := by decide +kernel
theorem dX4_init_128 : decode cX4_init 128 = .ok (.iconst 0, 1) := by decide +kernel
theorem dX4_init_129 : decode cX4_init 129 = .ok (.istore_n 1, 1) := by decide +kernel
theorem dX4_init_130 : decode cX4_init 130 = .ok (.iload_n 1, 1) := by decide +kernel
theorem dX4_init_131 : decode cX4_init 131 = .ok (.iconst 4, 1) := by decide +kernel
theorem dX4_init_132 : decode cX4_init 132 = .ok (.if_icmp .ge 22, 3) := by decide +kernel
theorem dX4_init_135 : decode cX4_init 135 = .ok (.aload_n 0, 1) := by decide +kernel
theorem dX4_init_136 : decode cX4_init 136 = .ok (.getfield 52, 3) := by decide +kernel
theorem dX4_init_139 : decode cX4_init 139 = .ok (.iload_n 1, 1) := by decide +kernel
theorem dX4_init_140 : decode cX4_init 140 = .ok (.new 50, 3) := by decide +kernel
theorem dX4_init_143 : decode cX4_init 143 = .ok (.dup, 1) := by decide +kernel
theorem dX4_init_144 : decode cX4_init 144 = .ok (.invokespecial 57, 3) := by decide +kernel
theorem dX4_init_147 : decode cX4_init 147 = .ok (.aastore, 1) := by decide +kernel
theorem dX4_init_148 : decode cX4_init 148 = .ok (.iinc 1 1, 3) := by decide +kernel
theorem dX4_init_151 : decode cX4_init 151 = .ok (.goto (-21), 3) := by decide +kernel
theorem dX4_init_154 : decode cX4_init 154 = .ok (.return_, 1) := by decide +kernel
theorem dX4_sea_0 : decode cX4_sea 0 = .ok (.aload_n 0, 1) := by decide +kernel
theorem dX4_sea_1 : decode cX4_sea 1 = .ok (.iconst 0, 1) := by decide +kernel
theorem dX4_sea_2 : decode cX4_sea 2 = .ok (.putfield 58, 3) := by decide +kernel
theorem dX4_sea_5 : decode cX4_sea 5 = .ok (.iload_n 1, 1) := by decide +kernel
theorem dX4_sea_6 : decode cX4_sea 6 = .ok (.invokestatic 62, 3) := by decide +kernel
theorem dX4_sea_9 : decode cX4_sea 9 = .ok (.ifCond .ne 5, 3) := by decide +kernel
theorem dX4_sea_12 : decode cX4_sea 12 = .ok (.iconst (-1), 1) := by decide +kernel
theorem dX4_sea_13 : decode cX4_sea 13 = .ok (.ireturn, 1) := by decide +kernel
theorem dX4_sea_14 : decode cX4_sea 14 = .ok (.iload_n 2, 1) := by decide +kernel
theorem dX4_sea_15 : decode cX4_sea 15 = .ok (.iconst 3, 1) := by decide +kernel
theorem dX4_sea_16 : decode cX4_sea 16 = .ok (.invokestatic 66, 3) := by decide +kernel
theorem dX4_sea_19 : decode cX4_sea 19 = .ok (.ifCond .ne 6, 3) := by decide +kernel
theorem dX4_sea_22 : decode cX4_sea 22 = .ok (.bipush (-2), 2) := by decide +kernel
theorem dX4_sea_24 : decode cX4_sea 24 = .ok (.ireturn, 1) := by decide +kernel
theorem dX4_sea_25 : decode cX4_sea 25 = .ok (.aload_n 0, 1) := by decide +kernel
theorem dX4_sea_26 : decode cX4_sea 26 = .ok (.getfield 52, 3) := by decide +kernel
theorem dX4_sea_29 : decode cX4_sea 29 = .ok (.iload_n 1, 1) := by decide +kernel
theorem dX4_sea_30 : decode cX4_sea 30 = .ok (.aaload, 1) := by decide +kernel
theorem dX4_sea_31 : decode cX4_sea 31 = .ok (.astore 5, 2) := by decide +kernel
theorem dX4_sea_33 : decode cX4_sea 33 = .ok (.aload 5, 2) := by decide +kernel
theorem dX4_sea_35 : decode cX4_sea 35 = .ok (.iload_n 2, 1) := by decide +kernel
theorem dX4_sea_36 : decode cX4_sea 36 = .ok (.iload_n 3, 1) := by decide +kernel
theorem dX4_sea_37 : decode cX4_sea 37 = .ok (.iload 4, 2) := by decide +kernel
theorem dX4_sea_39 : decode cX4_sea 39 = .ok (.invokevirtual 70, 3) := by decide +kernel
theorem dX4_sea_42 : decode cX4_sea 42 = .ok (.istore 6, 2) := by decide +kernel
theorem dX4_sea_44 : decode cX4_sea 44 = .ok (.iload 6, 2) := by decide +kernel
theorem dX4_sea_46 : decode cX4_sea 46 = .ok (.ifCond .eq 10, 3) := by decide +kernel
theorem dX4_sea_49 : decode cX4_sea 49 = .ok (.aload_n 0, 1) := by decide +kernel
theorem dX4_sea_50 : decode cX4_sea 50 = .ok (.iload 6, 2) := by decide +kernel
theorem dX4_sea_52 : decode cX4_sea 52 = .ok (.invokevirtual 74, 3) := by decide +kernel
theorem dX4_sea_55 : decode cX4_sea 55 = .ok (.ireturn, 1) := by decide +kernel
theorem dX4_sea_56 : decode cX4_sea 56 = .ok (.aload 5, 2) := by decide +kernel
theorem dX4_sea_58 : decode cX4_sea 58 = .ok (.iload_n 3, 1) := by decide +kernel
theorem dX4_sea_59 : decode cX4_sea 59 = .ok (.iload 4, 2) := by decide +kernel
theorem dX4_sea_61 : decode cX4_sea 61 = .ok (.invokestatic 78, 3) := by decide +kernel
theorem dX4_sea_64 : decode cX4_sea 64 = .ok (.istore 7, 2) := by decide +kernel
theorem dX4_sea_66 : decode cX4_sea 66 = .ok (.iload 7, 2) := by decide +kernel
theorem dX4_sea_68 : decode cX4_sea 68 = .ok (.bipush (-9), 2) := by decide +kernel
theorem dX4_sea_70 : decode cX4_sea 70 = .ok (.if_icmp .eq 9, 3) := by decide +kernel
theorem dX4_sea_73 : decode cX4_sea 73 = .ok (.bipush (-100), 2) := by decide +kernel
theorem dX4_sea_75 : decode cX4_sea 75 = .ok (.iload 7, 2) := by decide +kernel
theorem dX4_sea_77 : decode cX4_sea 77 = .ok (.isub, 1) := by decide +kernel
theorem dX4_sea_78 : decode cX4_sea 78 = .ok (.ireturn, 1) := by decide +kernel
theorem dX4_sea_79 : decode cX4_sea 79 = .ok (.aload_n 0, 1) := by decide +kernel
theorem dX4_sea_80 : decode cX4_sea 80 = .ok (.aload 5, 2) := by decide +kernel
theorem dX4_sea_82 : decode cX4_sea 82 = .ok (.iload_n 3, 1) := by decide +kernel
theorem dX4_sea_83 : decode cX4_sea 83 = .ok (.iload 4, 2) := by decide +kernel
theorem dX4_sea_85 : decode cX4_sea 85 = .ok (.invokevirtual 82, 3) := by decide +kernel
theorem dX4_sea_88 : decode cX4_sea 88 = .ok (.aload_n 0, 1) := by decide +kernel
theorem dX4_sea_89 : decode cX4_sea 89 = .ok (.getfield 86, 3) := by decide +kernel
theorem dX4_sea_92 : decode cX4_sea 92 = .ok (.ireturn, 1) := by decide +kernel
theorem dX4_ofShip_0 : decode cX4_ofShip 0 = .ok (.aload_n 0, 1) := by decide +kernel
theorem dX4_ofShip_1 : decode cX4_ofShip 1 = .ok (.iload_n 1, 1) := by decide +kernel
theorem dX4_ofShip_2 : decode cX4_ofShip 2 = .ok (.invokevirtual 89, 3) := by decide +kernel
theorem dX4_ofShip_5 : decode cX4_ofShip 5 = .ok (.ifCond .ne 5, 3) := by decide +kernel
theorem dX4_ofShip_8 : decode cX4_ofShip 8 = .ok (.iconst (-1), 1) := by decide +kernel
theorem dX4_ofShip_9 : decode cX4_ofShip 9 = .ok (.ireturn, 1) := by decide +kernel
theorem dX4_ofShip_10 : decode cX4_ofShip 10 = .ok (.aload_n 0, 1) := by decide +kernel
theorem dX4_ofShip_11 : decode cX4_ofShip 11 = .ok (.getfield 17, 3) := by decide +kernel
theorem dX4_ofShip_14 : decode cX4_ofShip 14 = .ok (.iload_n 1, 1) := by decide +kernel
theorem dX4_ofShip_15 : decode cX4_ofShip 15 = .ok (.aaload, 1) := by decide +kernel
theorem dX4_ofShip_16 : decode cX4_ofShip 16 = .ok (.astore_n 3, 1) := by decide +kernel
theorem dX4_ofShip_17 : decode cX4_ofShip 17 = .ok (.iload_n 2, 1) := by decide +kernel
theorem dX4_ofShip_18 : decode cX4_ofShip 18 = .ok (.tableswitch 94 0 7 #[46, 51, 56, 61, 66, 71, 84, 89], 46) := by decide +kernel
theorem dX4_ofShip_64 : decode cX4_ofShip 64 = .ok (.aload_n 3, 1) := by decide +kernel
theorem dX4_ofShip_65 : decode cX4_ofShip 65 = .ok (.getfield 92, 3) := by decide +kernel
theorem dX4_ofShip_68 : decode cX4_ofShip 68 = .ok (.ireturn, 1) := by decide +kernel
theorem dX4_ofShip_69 : decode cX4_ofShip 69 = .ok (.aload_n 3, 1) := by decide +kernel
theorem dX4_ofShip_70 : decode cX4_ofShip 70 = .ok (.getfield 95, 3) := by decide +kernel
theorem dX4_ofShip_73 : decode cX4_ofShip 73 = .ok (.ireturn, 1) := by decide +kernel
theorem dX4_ofShip_74 : decode cX4_ofShip 74 = .ok (.aload_n 3, 1) := by decide +kernel
theorem dX4_ofShip_75 : decode cX4_ofShip 75 = .ok (.getfield 98, 3) := by decide +kernel
theorem dX4_ofShip_78 : decode cX4_ofShip 78 = .ok (.ireturn, 1) := by decide +kernel
theorem dX4_ofShip_79 : decode cX4_ofShip 79 = .ok (.aload_n 3, 1) := by decide +kernel
theorem dX4_ofShip_80 : decode cX4_ofShip 80 = .ok (.invokevirtual 101, 3) := by decide +kernel
theorem dX4_ofShip_83 : decode cX4_ofShip 83 = .ok (.ireturn, 1) := by decide +kernel
theorem dX4_ofShip_84 : decode cX4_ofShip 84 = .ok (.aload_n 3, 1) := by decide +kernel
theorem dX4_ofShip_85 : decode cX4_ofShip 85 = .ok (.getfield 105, 3) := by decide +kernel
theorem dX4_ofShip_88 : decode cX4_ofShip 88 = .ok (.ireturn, 1) := by decide +kernel
theorem dX4_ofShip_89 : decode cX4_ofShip 89 = .ok (.aload_n 3, 1) := by decide +kernel
theorem dX4_ofShip_90 : decode cX4_ofShip 90 = .ok (.invokevirtual 108, 3) := by decide +kernel
theorem dX4_ofShip_93 : decode cX4_ofShip 93 = .ok (.ifCond .eq 7, 3) := by decide +kernel
theorem dX4_ofShip_96 : decode cX4_ofShip 96 = .ok (.iconst 1, 1) := by decide +kernel
theorem dX4_ofShip_97 : decode cX4_ofShip 97 = .ok (.goto 4, 3) := by decide +kernel
theorem dX4_ofShip_100 : decode cX4_ofShip 100 = .ok (.iconst 0, 1) := by decide +kernel
theorem dX4_ofShip_101 : decode cX4_ofShip 101 = .ok (.ireturn, 1) := by decide +kernel
theorem dX4_ofShip_102 : decode cX4_ofShip 102 = .ok (.aload_n 3, 1) := by decide +kernel
theorem dX4_ofShip_103 : decode cX4_ofShip 103 = .ok (.invokevirtual 112, 3) := by decide +kernel
theorem dX4_ofShip_106 : decode cX4_ofShip 106 = .ok (.ireturn, 1) := by decide +kernel
theorem dX4_ofShip_107 : decode cX4_ofShip 107 = .ok (.aload_n 3, 1) := by decide +kernel
theorem dX4_ofShip_108 : decode cX4_ofShip 108 = .ok (.invokevirtual 115, 3) := by decide +kernel
theorem dX4_ofShip_111 : decode cX4_ofShip 111 = .ok (.ireturn, 1) := by decide +kernel
theorem dX4_ofShip_112 : decode cX4_ofShip 112 = .ok (.iload_n 2, 1) := by decide +kernel
theorem dX4_ofShip_113 : decode cX4_ofShip 113 = .ok (.bipush 10, 2) := by decide +kernel
theorem dX4_ofShip_115 : decode cX4_ofShip 115 = .ok (.isub, 1) := by decide +kernel
theorem dX4_ofShip_116 : decode cX4_ofShip 116 = .ok (.invokestatic 118, 3) := by decide +kernel
theorem dX4_ofShip_119 : decode cX4_ofShip 119 = .ok (.ifCond .eq 15, 3) := by decide +kernel
theorem dX4_ofShip_122 : decode cX4_ofShip 122 = .ok (.aload_n 3, 1) := by decide +kernel
theorem dX4_ofShip_123 : decode cX4_ofShip 123 = .ok (.getfield 121, 3) := by decide +kernel
theorem dX4_ofShip_126 : decode cX4_ofShip 126 = .ok (.iload_n 2, 1) := by decide +kernel
theorem dX4_ofShip_127 : decode cX4_ofShip 127 = .ok (.bipush 10, 2) := by decide +kernel
theorem dX4_ofShip_129 : decode cX4_ofShip 129 = .ok (.isub, 1) := by decide +kernel
theorem dX4_ofShip_130 : decode cX4_ofShip 130 = .ok (.iaload, 1) := by decide +kernel
theorem dX4_ofShip_131 : decode cX4_ofShip 131 = .ok (.goto 5, 3) := by decide +kernel
theorem dX4_ofShip_134 : decode cX4_ofShip 134 = .ok (.bipush (-2), 2) := by decide +kernel
theorem dX4_ofShip_136 : decode cX4_ofShip 136 = .ok (.ireturn, 1) := by decide +kernel
theorem dX4_rough_0 : decode cX4_rough 0 = .ok (.aload_n 0, 1) := by decide +kernel
theorem dX4_rough_1 : decode cX4_rough 1 = .ok (.iload_n 1, 1) := by decide +kernel
theorem dX4_rough_2 : decode cX4_rough 2 = .ok (.invokevirtual 124, 3) := by decide +kernel
theorem dX4_rough_5 : decode cX4_rough 5 = .ok (.ifCond .eq 12, 3) := by decide +kernel
theorem dX4_rough_8 : decode cX4_rough 8 = .ok (.aload_n 0, 1) := by decide +kernel
theorem dX4_rough_9 : decode cX4_rough 9 = .ok (.getfield 11, 3) := by decide +kernel
theorem dX4_rough_12 : decode cX4_rough 12 = .ok (.iload_n 1, 1) := by decide +kernel
theorem dX4_rough_13 : decode cX4_rough 13 = .ok (.iaload, 1) := by decide +kernel
theorem dX4_rough_14 : decode cX4_rough 14 = .ok (.goto 4, 3) := by decide +kernel
theorem dX4_rough_17 : decode cX4_rough 17 = .ok (.iconst (-1), 1) := by decide +kernel
theorem dX4_rough_18 : decode cX4_rough 18 = .ok (.ireturn, 1) := by decide +kernel
theorem dX4_blow_0 : decode cX4_blow 0 = .ok (.aload_n 0, 1) := by decide +kernel
theorem dX4_blow_1 : decode cX4_blow 1 = .ok (.iload_n 1, 1) := by decide +kernel
theorem dX4_blow_2 : decode cX4_blow 2 = .ok (.invokevirtual 124, 3) := by decide +kernel
theorem dX4_blow_5 : decode cX4_blow 5 = .ok (.ifCond .ne 5, 3) := by decide +kernel
theorem dX4_blow_8 : decode cX4_blow 8 = .ok (.iconst (-1), 1) := by decide +kernel
theorem dX4_blow_9 : decode cX4_blow 9 = .ok (.ireturn, 1) := by decide +kernel
theorem dX4_blow_10 : decode cX4_blow 10 = .ok (.iload_n 2, 1) := by decide +kernel
theorem dX4_blow_11 : decode cX4_blow 11 = .ok (.bipush 9, 2) := by decide +kernel
theorem dX4_blow_13 : decode cX4_blow 13 = .ok (.invokestatic 127, 3) := by decide +kernel
theorem dX4_blow_16 : decode cX4_blow 16 = .ok (.ifCond .ne 6, 3) := by decide +kernel
theorem dX4_blow_19 : decode cX4_blow 19 = .ok (.bipush (-2), 2) := by decide +kernel
theorem dX4_blow_21 : decode cX4_blow 21 = .ok (.ireturn, 1) := by decide +kernel
theorem dX4_blow_22 : decode cX4_blow 22 = .ok (.aload_n 0, 1) := by decide +kernel
theorem dX4_blow_23 : decode cX4_blow 23 = .ok (.getfield 11, 3) := by decide +kernel
theorem dX4_blow_26 : decode cX4_blow 26 = .ok (.iload_n 1, 1) := by decide +kernel
theorem dX4_blow_27 : decode cX4_blow 27 = .ok (.iaload, 1) := by decide +kernel
theorem dX4_blow_28 : decode cX4_blow 28 = .ok (.istore_n 3, 1) := by decide +kernel
theorem dX4_blow_29 : decode cX4_blow 29 = .ok (.aload_n 0, 1) := by decide +kernel
theorem dX4_blow_30 : decode cX4_blow 30 = .ok (.getfield 11, 3) := by decide +kernel
theorem dX4_blow_33 : decode cX4_blow 33 = .ok (.iload_n 1, 1) := by decide +kernel
theorem dX4_blow_34 : decode cX4_blow 34 = .ok (.iload_n 2, 1) := by decide +kernel
theorem dX4_blow_35 : decode cX4_blow 35 = .ok (.iastore, 1) := by decide +kernel
theorem dX4_blow_36 : decode cX4_blow 36 = .ok (.iload_n 3, 1) := by decide +kernel
theorem dX4_blow_37 : decode cX4_blow 37 = .ok (.ireturn, 1) := by decide +kernel
theorem dX4_name_0 : decode cX4_name 0 = .ok (.aload_n 0, 1) := by decide +kernel
theorem dX4_name_1 : decode cX4_name 1 = .ok (.iload_n 1, 1) := by decide +kernel
theorem dX4_name_2 : decode cX4_name 2 = .ok (.invokevirtual 89, 3) := by decide +kernel
theorem dX4_name_5 : decode cX4_name 5 = .ok (.ifCond .ne 5, 3) := by decide +kernel
theorem dX4_name_8 : decode cX4_name 8 = .ok (.iconst (-1), 1) := by decide +kernel
theorem dX4_name_9 : decode cX4_name 9 = .ok (.ireturn, 1) := by decide +kernel
theorem dX4_name_10 : decode cX4_name 10 = .ok (.iload_n 2, 1) := by decide +kernel
theorem dX4_name_11 : decode cX4_name 11 = .ok (.invokestatic 118, 3) := by decide +kernel
theorem dX4_name_14 : decode cX4_name 14 = .ok (.ifCond .ne 6, 3) := by decide +kernel
theorem dX4_name_17 : decode cX4_name 17 = .ok (.bipush (-2), 2) := by decide +kernel
theorem dX4_name_19 : decode cX4_name 19 = .ok (.ireturn, 1) := by decide +kernel
theorem dX4_name_20 : decode cX4_name 20 = .ok (.aload_n 0, 1) := by decide +kernel
theorem dX4_name_21 : decode cX4_name 21 = .ok (.getfield 17, 3) := by decide +kernel
theorem dX4_name_24 : decode cX4_name 24 = .ok (.iload_n 1, 1) := by decide +kernel
theorem dX4_name_25 : decode cX4_name 25 = .ok (.aaload, 1) := by decide +kernel
theorem dX4_name_26 : decode cX4_name 26 = .ok (.getfield 95, 3) := by decide +kernel
theorem dX4_name_29 : decode cX4_name 29 = .ok (.istore_n 3, 1) := by decide +kernel
theorem dX4_name_30 : decode cX4_name 30 = .ok (.aload_n 0, 1) := by decide +kernel
theorem dX4_name_31 : decode cX4_name 31 = .ok (.getfield 17, 3) := by decide +kernel
theorem dX4_name_34 : decode cX4_name 34 = .ok (.iload_n 1, 1) := by decide +kernel
theorem dX4_name_35 : decode cX4_name 35 = .ok (.aaload, 1) := by decide +kernel
theorem dX4_name_36 : decode cX4_name 36 = .ok (.iload_n 2, 1) := by decide +kernel
theorem dX4_name_37 : decode cX4_name 37 = .ok (.putfield 95, 3) := by decide +kernel
theorem dX4_name_40 : decode cX4_name 40 = .ok (.iload_n 3, 1) := by decide +kernel
theorem dX4_name_41 : decode cX4_name 41 = .ok (.ireturn, 1) := by decide +kernel
theorem dX4_days_0 : decode cX4_days 0 = .ok (.iload_n 1, 1) := by decide +kernel
theorem dX4_days_1 : decode cX4_days 1 = .ok (.iconst 1, 1) := by decide +kernel
theorem dX4_days_2 : decode cX4_days 2 = .ok (.if_icmp .lt 9, 3) := by decide +kernel
theorem dX4_days_5 : decode cX4_days 5 = .ok (.iload_n 1, 1) := by decide +kernel
theorem dX4_days_6 : decode cX4_days 6 = .ok (.bipush 30, 2) := by decide +kernel
theorem dX4_days_8 : decode cX4_days 8 = .ok (.if_icmp .le 6, 3) := by decide +kernel
theorem dX4_days_11 : decode cX4_days 11 = .ok (.bipush (-2), 2) := by decide +kernel
theorem dX4_days_13 : decode cX4_days 13 = .ok (.ireturn, 1) := by decide +kernel
theorem dX4_days_14 : decode cX4_days 14 = .ok (.aload_n 0, 1) := by decide +kernel
theorem dX4_days_15 : decode cX4_days 15 = .ok (.invokevirtual 130, 3) := by decide +kernel
theorem dX4_days_18 : decode cX4_days 18 = .ok (.ifCond .ne 6, 3) := by decide +kernel
theorem dX4_days_21 : decode cX4_days 21 = .ok (.bipush (-3), 2) := by decide +kernel
theorem dX4_days_23 : decode cX4_days 23 = .ok (.ireturn, 1) := by decide +kernel
theorem dX4_days_24 : decode cX4_days 24 = .ok (.iconst 0, 1) := by decide +kernel
theorem dX4_days_25 : decode cX4_days 25 = .ok (.istore_n 2, 1) := by decide +kernel
theorem dX4_days_26 : decode cX4_days 26 = .ok (.iconst 0, 1) := by decide +kernel
theorem dX4_days_27 : decode cX4_days 27 = .ok (.istore_n 3, 1) := by decide +kernel
theorem dX4_days_28 : decode cX4_days 28 = .ok (.iload_n 3, 1) := by decide +kernel
theorem dX4_days_29 : decode cX4_days 29 = .ok (.iload_n 1, 1) := by decide +kernel
theorem dX4_days_30 : decode cX4_days 30 = .ok (.if_icmp .ge 46, 3) := by decide +kernel
theorem dX4_days_33 : decode cX4_days 33 = .ok (.iconst 0, 1) := by decide +kernel
theorem dX4_days_34 : decode cX4_days 34 = .ok (.istore 4, 2) := by decide +kernel
theorem dX4_days_36 : decode cX4_days 36 = .ok (.iload 4, 2) := by decide +kernel
theorem dX4_days_38 : decode cX4_days 38 = .ok (.aload_n 0, 1) := by decide +kernel
theorem dX4_days_39 : decode cX4_days 39 = .ok (.getfield 86, 3) := by decide +kernel
theorem dX4_days_42 : decode cX4_days 42 = .ok (.if_icmp .ge 28, 3) := by decide +kernel
theorem dX4_days_45 : decode cX4_days 45 = .ok (.aload_n 0, 1) := by decide +kernel
theorem dX4_days_46 : decode cX4_days 46 = .ok (.aload_n 0, 1) := by decide +kernel
theorem dX4_days_47 : decode cX4_days 47 = .ok (.getfield 17, 3) := by decide +kernel
theorem dX4_days_50 : decode cX4_days 50 = .ok (.iload 4, 2) := by decide +kernel
theorem dX4_days_52 : decode cX4_days 52 = .ok (.aaload, 1) := by decide +kernel
theorem dX4_days_53 : decode cX4_days 53 = .ok (.invokevirtual 133, 3) := by decide +kernel
theorem dX4_days_56 : decode cX4_days 56 = .ok (.bipush (-9), 2) := by decide +kernel
theorem dX4_days_58 : decode cX4_days 58 = .ok (.if_icmp .eq 6, 3) := by decide +kernel
theorem dX4_days_61 : decode cX4_days 61 = .ok (.iinc 2 1, 3) := by decide +kernel
theorem dX4_days_64 : decode cX4_days 64 = .ok (.iinc 4 1, 3) := by decide +kernel
theorem dX4_days_67 : decode cX4_days 67 = .ok (.goto (-31), 3) := by decide +kernel
theorem dX4_days_70 : decode cX4_days 70 = .ok (.iinc 3 1, 3) := by decide +kernel
theorem dX4_days_73 : decode cX4_days 73 = .ok (.goto (-45), 3) := by decide +kernel
theorem dX4_days_76 : decode cX4_days 76 = .ok (.aload_n 0, 1) := by decide +kernel
theorem dX4_days_77 : decode cX4_days 77 = .ok (.dup, 1) := by decide +kernel
theorem dX4_days_78 : decode cX4_days 78 = .ok (.getfield 137, 3) := by decide +kernel
theorem dX4_days_81 : decode cX4_days 81 = .ok (.iload_n 1, 1) := by decide +kernel
theorem dX4_days_82 : decode cX4_days 82 = .ok (.iadd, 1) := by decide +kernel
theorem dX4_days_83 : decode cX4_days 83 = .ok (.putfield 137, 3) := by decide +kernel
theorem dX4_days_86 : decode cX4_days 86 = .ok (.iload_n 2, 1) := by decide +kernel
theorem dX4_days_87 : decode cX4_days 87 = .ok (.ireturn, 1) := by decide +kernel
theorem dX4_load_0 : decode cX4_load 0 = .ok (.aload_n 0, 1) := by decide +kernel
theorem dX4_load_1 : decode cX4_load 1 = .ok (.iload_n 1, 1) := by decide +kernel
theorem dX4_load_2 : decode cX4_load 2 = .ok (.invokevirtual 89, 3) := by decide +kernel
theorem dX4_load_5 : decode cX4_load 5 = .ok (.ifCond .ne 5, 3) := by decide +kernel
theorem dX4_load_8 : decode cX4_load 8 = .ok (.iconst (-1), 1) := by decide +kernel
theorem dX4_load_9 : decode cX4_load 9 = .ok (.ireturn, 1) := by decide +kernel
theorem dX4_load_10 : decode cX4_load 10 = .ok (.iload_n 2, 1) := by decide +kernel
theorem dX4_load_11 : decode cX4_load 11 = .ok (.invokestatic 118, 3) := by decide +kernel
theorem dX4_load_14 : decode cX4_load 14 = .ok (.ifCond .eq 10, 3) := by decide +kernel
theorem dX4_load_17 : decode cX4_load 17 = .ok (.iload_n 3, 1) := by decide +kernel
theorem dX4_load_18 : decode cX4_load 18 = .ok (.invokestatic 140, 3) := by decide +kernel
theorem dX4_load_21 : decode cX4_load 21 = .ok (.ifCond .ne 6, 3) := by decide +kernel
theorem dX4_load_24 : decode cX4_load 24 = .ok (.bipush (-2), 2) := by decide +kernel
theorem dX4_load_26 : decode cX4_load 26 = .ok (.ireturn, 1) := by decide +kernel
theorem dX4_load_27 : decode cX4_load 27 = .ok (.aload_n 0, 1) := by decide +kernel
theorem dX4_load_28 : decode cX4_load 28 = .ok (.getfield 17, 3) := by decide +kernel
theorem dX4_load_31 : decode cX4_load 31 = .ok (.iload_n 1, 1) := by decide +kernel
theorem dX4_load_32 : decode cX4_load 32 = .ok (.aaload, 1) := by decide +kernel
theorem dX4_load_33 : decode cX4_load 33 = .ok (.getfield 121, 3) := by decide +kernel
theorem dX4_load_36 : decode cX4_load 36 = .ok (.astore 4, 2) := by decide +kernel
theorem dX4_load_38 : decode cX4_load 38 = .ok (.aload 4, 2) := by decide +kernel
theorem dX4_load_40 : decode cX4_load 40 = .ok (.iload_n 2, 1) := by decide +kernel
theorem dX4_load_41 : decode cX4_load 41 = .ok (.iaload, 1) := by decide +kernel
theorem dX4_load_42 : decode cX4_load 42 = .ok (.iload_n 3, 1) := by decide +kernel
theorem dX4_load_43 : decode cX4_load 43 = .ok (.iadd, 1) := by decide +kernel
theorem dX4_load_44 : decode cX4_load 44 = .ok (.bipush 9, 2) := by decide +kernel
theorem dX4_load_46 : decode cX4_load 46 = .ok (.if_icmp .le 6, 3) := by decide +kernel
theorem dX4_load_49 : decode cX4_load 49 = .ok (.bipush (-4), 2) := by decide +kernel
theorem dX4_load_51 : decode cX4_load 51 = .ok (.ireturn, 1) := by decide +kernel
theorem dX4_load_52 : decode cX4_load 52 = .ok (.aload 4, 2) := by decide +kernel
theorem dX4_load_54 : decode cX4_load 54 = .ok (.iload_n 2, 1) := by decide +kernel
theorem dX4_load_55 : decode cX4_load 55 = .ok (.dup2, 1) := by decide +kernel
theorem dX4_load_56 : decode cX4_load 56 = .ok (.iaload, 1) := by decide +kernel
theorem dX4_load_57 : decode cX4_load 57 = .ok (.iload_n 3, 1) := by decide +kernel
theorem dX4_load_58 : decode cX4_load 58 = .ok (.iadd, 1) := by decide +kernel
theorem dX4_load_59 : decode cX4_load 59 = .ok (.iastore, 1) := by decide +kernel
theorem dX4_load_60 : decode cX4_load 60 = .ok (.aload 4, 2) := by decide +kernel
theorem dX4_load_62 : decode cX4_load 62 = .ok (.iload_n 2, 1) := by decide +kernel
theorem dX4_load_63 : decode cX4_load 63 = .ok (.iaload, 1) := by decide +kernel
theorem dX4_load_64 : decode cX4_load 64 = .ok (.ireturn, 1) := by decide +kernel
theorem dX4_off_0 : decode cX4_off 0 = .ok (.aload_n 0, 1) := by decide +kernel
theorem dX4_off_1 : decode cX4_off 1 = .ok (.iload_n 1, 1) := by decide +kernel
theorem dX4_off_2 : decode cX4_off 2 = .ok (.invokevirtual 89, 3) := by decide +kernel
theorem dX4_off_5 : decode cX4_off 5 = .ok (.ifCond .ne 5, 3) := by decide +kernel
theorem dX4_off_8 : decode cX4_off 8 = .ok (.iconst (-1), 1) := by decide +kernel
theorem dX4_off_9 : decode cX4_off 9 = .ok (.ireturn, 1) := by decide +kernel
theorem dX4_off_10 : decode cX4_off 10 = .ok (.iload_n 2, 1) := by decide +kernel
theorem dX4_off_11 : decode cX4_off 11 = .ok (.invokestatic 118, 3) := by decide +kernel
theorem dX4_off_14 : decode cX4_off 14 = .ok (.ifCond .eq 10, 3) := by decide +kernel
theorem dX4_off_17 : decode cX4_off 17 = .ok (.iload_n 3, 1) := by decide +kernel
theorem dX4_off_18 : decode cX4_off 18 = .ok (.invokestatic 140, 3) := by decide +kernel
theorem dX4_off_21 : decode cX4_off 21 = .ok (.ifCond .ne 6, 3) := by decide +kernel
theorem dX4_off_24 : decode cX4_off 24 = .ok (.bipush (-2), 2) := by decide +kernel
theorem dX4_off_26 : decode cX4_off 26 = .ok (.ireturn, 1) := by decide +kernel
theorem dX4_off_27 : decode cX4_off 27 = .ok (.aload_n 0, 1) := by decide +kernel
theorem dX4_off_28 : decode cX4_off 28 = .ok (.getfield 17, 3) := by decide +kernel
theorem dX4_off_31 : decode cX4_off 31 = .ok (.iload_n 1, 1) := by decide +kernel
theorem dX4_off_32 : decode cX4_off 32 = .ok (.aaload, 1) := by decide +kernel
theorem dX4_off_33 : decode cX4_off 33 = .ok (.getfield 121, 3) := by decide +kernel
theorem dX4_off_36 : decode cX4_off 36 = .ok (.astore 4, 2) := by decide +kernel
theorem dX4_off_38 : decode cX4_off 38 = .ok (.aload 4, 2) := by decide +kernel
theorem dX4_off_40 : decode cX4_off 40 = .ok (.iload_n 2, 1) := by decide +kernel
theorem dX4_off_41 : decode cX4_off 41 = .ok (.iaload, 1) := by decide +kernel
theorem dX4_off_42 : decode cX4_off 42 = .ok (.iload_n 3, 1) := by decide +kernel
theorem dX4_off_43 : decode cX4_off 43 = .ok (.if_icmp .ge 6, 3) := by decide +kernel
theorem dX4_off_46 : decode cX4_off 46 = .ok (.bipush (-3), 2) := by decide +kernel
theorem dX4_off_48 : decode cX4_off 48 = .ok (.ireturn, 1) := by decide +kernel
theorem dX4_off_49 : decode cX4_off 49 = .ok (.aload 4, 2) := by decide +kernel
theorem dX4_off_51 : decode cX4_off 51 = .ok (.iload_n 2, 1) := by decide +kernel
theorem dX4_off_52 : decode cX4_off 52 = .ok (.dup2, 1) := by decide +kernel
theorem dX4_off_53 : decode cX4_off 53 = .ok (.iaload, 1) := by decide +kernel
theorem dX4_off_54 : decode cX4_off 54 = .ok (.iload_n 3, 1) := by decide +kernel
theorem dX4_off_55 : decode cX4_off 55 = .ok (.isub, 1) := by decide +kernel
theorem dX4_off_56 : decode cX4_off 56 = .ok (.iastore, 1) := by decide +kernel
theorem dX4_off_57 : decode cX4_off 57 = .ok (.aload 4, 2) := by decide +kernel
theorem dX4_off_59 : decode cX4_off 59 = .ok (.iload_n 2, 1) := by decide +kernel
theorem dX4_off_60 : decode cX4_off 60 = .ok (.iaload, 1) := by decide +kernel
theorem dX4_off_61 : decode cX4_off 61 = .ok (.ireturn, 1) := by decide +kernel
theorem dX4_voyage_0 : decode cX4_voyage 0 = .ok (.aload_n 0, 1) := by decide +kernel
theorem dX4_voyage_1 : decode cX4_voyage 1 = .ok (.iconst 0, 1) := by decide +kernel
theorem dX4_voyage_2 : decode cX4_voyage 2 = .ok (.putfield 58, 3) := by decide +kernel
theorem dX4_voyage_5 : decode cX4_voyage 5 = .ok (.iload_n 1, 1) := by decide +kernel
theorem dX4_voyage_6 : decode cX4_voyage 6 = .ok (.invokestatic 62, 3) := by decide +kernel
theorem dX4_voyage_9 : decode cX4_voyage 9 = .ok (.ifCond .ne 5, 3) := by decide +kernel
theorem dX4_voyage_12 : decode cX4_voyage 12 = .ok (.iconst (-1), 1) := by decide +kernel
theorem dX4_voyage_13 : decode cX4_voyage 13 = .ok (.ireturn, 1) := by decide +kernel
theorem dX4_voyage_14 : decode cX4_voyage 14 = .ok (.iload_n 2, 1) := by decide +kernel
theorem dX4_voyage_15 : decode cX4_voyage 15 = .ok (.iconst 3, 1) := by decide +kernel
theorem dX4_voyage_16 : decode cX4_voyage 16 = .ok (.invokestatic 66, 3) := by decide +kernel
theorem dX4_voyage_19 : decode cX4_voyage 19 = .ok (.ifCond .eq 21, 3) := by decide +kernel
theorem dX4_voyage_22 : decode cX4_voyage 22 = .ok (.iload 4, 2) := by decide +kernel
theorem dX4_voyage_24 : decode cX4_voyage 24 = .ok (.bipush 20, 2) := by decide +kernel
theorem dX4_voyage_26 : decode cX4_voyage 26 = .ok (.invokestatic 127, 3) := by decide +kernel
theorem dX4_voyage_29 : decode cX4_voyage 29 = .ok (.ifCond .eq 11, 3) := by decide +kernel
theorem dX4_voyage_32 : decode cX4_voyage 32 = .ok (.iload 5, 2) := by decide +kernel
theorem dX4_voyage_34 : decode cX4_voyage 34 = .ok (.invokestatic 143, 3) := by decide +kernel
theorem dX4_voyage_37 : decode cX4_voyage 37 = .ok (.ifCond .ne 6, 3) := by decide +kernel
theorem dX4_voyage_40 : decode cX4_voyage 40 = .ok (.bipush (-2), 2) := by decide +kernel
theorem dX4_voyage_42 : decode cX4_voyage 42 = .ok (.ireturn, 1) := by decide +kernel
theorem dX4_voyage_43 : decode cX4_voyage 43 = .ok (.aload_n 0, 1) := by decide +kernel
theorem dX4_voyage_44 : decode cX4_voyage 44 = .ok (.getfield 52, 3) := by decide +kernel
theorem dX4_voyage_47 : decode cX4_voyage 47 = .ok (.iload_n 1, 1) := by decide +kernel
theorem dX4_voyage_48 : decode cX4_voyage 48 = .ok (.aaload, 1) := by decide +kernel
theorem dX4_voyage_49 : decode cX4_voyage 49 = .ok (.astore 6, 2) := by decide +kernel
theorem dX4_voyage_51 : decode cX4_voyage 51 = .ok (.aload 6, 2) := by decide +kernel
theorem dX4_voyage_53 : decode cX4_voyage 53 = .ok (.iload_n 2, 1) := by decide +kernel
theorem dX4_voyage_54 : decode cX4_voyage 54 = .ok (.iload_n 3, 1) := by decide +kernel
theorem dX4_voyage_55 : decode cX4_voyage 55 = .ok (.iconst 2, 1) := by decide +kernel
theorem dX4_voyage_56 : decode cX4_voyage 56 = .ok (.iload 4, 2) := by decide +kernel
theorem dX4_voyage_58 : decode cX4_voyage 58 = .ok (.imul, 1) := by decide +kernel
theorem dX4_voyage_59 : decode cX4_voyage 59 = .ok (.invokevirtual 70, 3) := by decide +kernel
theorem dX4_voyage_62 : decode cX4_voyage 62 = .ok (.istore 7, 2) := by decide +kernel
theorem dX4_voyage_64 : decode cX4_voyage 64 = .ok (.iload 7, 2) := by decide +kernel
theorem dX4_voyage_66 : decode cX4_voyage 66 = .ok (.ifCond .eq 10, 3) := by decide +kernel
theorem dX4_voyage_69 : decode cX4_voyage 69 = .ok (.aload_n 0, 1) := by decide +kernel
theorem dX4_voyage_70 : decode cX4_voyage 70 = .ok (.iload 7, 2) := by decide +kernel
theorem dX4_voyage_72 : decode cX4_voyage 72 = .ok (.invokevirtual 74, 3) := by decide +kernel
theorem dX4_voyage_75 : decode cX4_voyage 75 = .ok (.ireturn, 1) := by decide +kernel
theorem dX4_voyage_76 : decode cX4_voyage 76 = .ok (.aload_n 0, 1) := by decide +kernel
theorem dX4_voyage_77 : decode cX4_voyage 77 = .ok (.invokevirtual 130, 3) := by decide +kernel
theorem dX4_voyage_80 : decode cX4_voyage 80 = .ok (.ifCond .ne 6, 3) := by decide +kernel
theorem dX4_voyage_83 : decode cX4_voyage 83 = .ok (.bipush (-3), 2) := by decide +kernel
theorem dX4_voyage_85 : decode cX4_voyage 85 = .ok (.ireturn, 1) := by decide +kernel
theorem dX4_voyage_86 : decode cX4_voyage 86 = .ok (.aload_n 0, 1) := by decide +kernel
theorem dX4_voyage_87 : decode cX4_voyage 87 = .ok (.aload 6, 2) := by decide +kernel
theorem dX4_voyage_89 : decode cX4_voyage 89 = .ok (.iload_n 3, 1) := by decide +kernel
theorem dX4_voyage_90 : decode cX4_voyage 90 = .ok (.iload 4, 2) := by decide +kernel
theorem dX4_voyage_92 : decode cX4_voyage 92 = .ok (.invokevirtual 146, 3) := by decide +kernel
theorem dX4_voyage_95 : decode cX4_voyage 95 = .ok (.istore 8, 2) := by decide +kernel
theorem dX4_voyage_97 : decode cX4_voyage 97 = .ok (.iload 8, 2) := by decide +kernel
theorem dX4_voyage_99 : decode cX4_voyage 99 = .ok (.ifCond .eq 6, 3) := by decide +kernel
theorem dX4_voyage_102 : decode cX4_voyage 102 = .ok (.iload 8, 2) := by decide +kernel
theorem dX4_voyage_104 : decode cX4_voyage 104 = .ok (.ireturn, 1) := by decide +kernel
theorem dX4_voyage_105 : decode cX4_voyage 105 = .ok (.aload_n 0, 1) := by decide +kernel
theorem dX4_voyage_106 : decode cX4_voyage 106 = .ok (.aload 6, 2) := by decide +kernel
theorem dX4_voyage_108 : decode cX4_voyage 108 = .ok (.iload_n 3, 1) := by decide +kernel
theorem dX4_voyage_109 : decode cX4_voyage 109 = .ok (.iload 4, 2) := by decide +kernel
theorem dX4_voyage_111 : decode cX4_voyage 111 = .ok (.invokevirtual 149, 3) := by decide +kernel
theorem dX4_voyage_114 : decode cX4_voyage 114 = .ok (.istore 9, 2) := by decide +kernel
theorem dX4_voyage_116 : decode cX4_voyage 116 = .ok (.iload 5, 2) := by decide +kernel
theorem dX4_voyage_118 : decode cX4_voyage 118 = .ok (.iconst 1, 1) := by decide +kernel
theorem dX4_voyage_119 : decode cX4_voyage 119 = .ok (.if_icmp .ne 6, 3) := by decide +kernel
theorem dX4_voyage_122 : decode cX4_voyage 122 = .ok (.iload 9, 2) := by decide +kernel
theorem dX4_voyage_124 : decode cX4_voyage 124 = .ok (.ireturn, 1) := by decide +kernel
theorem dX4_voyage_125 : decode cX4_voyage 125 = .ok (.iload 9, 2) := by decide +kernel
theorem dX4_voyage_127 : decode cX4_voyage 127 = .ok (.bipush (-9), 2) := by decide +kernel
theorem dX4_voyage_129 : decode cX4_voyage 129 = .ok (.if_icmp .ne 12, 3) := by decide +kernel
theorem dX4_voyage_132 : decode cX4_voyage 132 = .ok (.aload_n 0, 1) := by decide +kernel
theorem dX4_voyage_133 : decode cX4_voyage 133 = .ok (.iload 5, 2) := by decide +kernel
theorem dX4_voyage_135 : decode cX4_voyage 135 = .ok (.invokevirtual 152, 3) := by decide +kernel
theorem dX4_voyage_138 : decode cX4_voyage 138 = .ok (.goto 8, 3) := by decide +kernel
theorem dX4_voyage_141 : decode cX4_voyage 141 = .ok (.bipush (-100), 2) := by decide +kernel
theorem dX4_voyage_143 : decode cX4_voyage 143 = .ok (.iload 9, 2) := by decide +kernel
theorem dX4_voyage_145 : decode cX4_voyage 145 = .ok (.isub, 1) := by decide +kernel
theorem dX4_voyage_146 : decode cX4_voyage 146 = .ok (.ireturn, 1) := by decide +kernel

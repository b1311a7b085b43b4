theorem inJ9 : ∀ w ∈ wsJ90, w ∈ lw_tbl := by decide +kernel
set_option maxRecDepth 20000 in
theorem ggX0_init_X2_init : GoodIn wsX0_init wsX2_init := goodIn_r _ [11, 12, 2, 3, 13, 14, 15, 16, 17, 21, 22, 23, 24] (by decide +kernel) (by decide +kernel)
set_option maxRecDepth 20000 in
theorem gX0_init_X2_init_n24 : GoodIn wsX0_init (wsX2_init) := ggX0_init_X2_init
theorem dX0_init_0 : decode cX0_init 0 = .ok (.aload_n 0, 1) := by decide +kernel
theorem dX0_init_1 : decode cX0_init 1 = .ok (.invokespecial 3, 3) := by decide +kernel
theorem dX0_init_4 : decode cX0_init 4 = .ok (.aload_n 0, 1) := by decide +kernel
theorem dX0_init_5 : decode cX0_init 5 = .ok (.bipush 6, 2) := by decide +kernel
theorem dX0_init_7 : decode cX0_init 7 = .ok (.anewarray 9, 3) := by decide +kernel
theorem dX0_init_10 : decode cX0_init 10 = .ok (.putfield 11, 3) := by decide +kernel
theorem dX0_init_13 : decode cX0_init 13 = .ok (.aload_n 0, 1) := by decide +kernel
theorem dX0_init_14 : decode cX0_init 14 = .ok (.iconst 0, 1) := by decide +kernel
theorem dX0_init_15 : decode cX0_init 15 = .ok (.putfield 17, 3) := by decide +kernel
theorem dX0_init_18 : decode cX0_init 18 = .ok (.aload_n 0, 1) := by decide +kernel
theorem dX0_init_19 : decode cX0_init 19 = .ok (.iconst 0, 1) := by decide +kernel
theorem dX0_init_20 : decode cX0_init 20 = .ok (.putfield 21, 3) := by decide +kernel
theorem dX0_init_23 : decode cX0_init 23 = .ok (.iconst 0, 1) := by decide +kernel
theorem dX0_init_24 : decode cX0_init 24 = .ok (.istore_n 1, 1) := by decide +kernel
theorem dX0_init_25 : decode cX0_init 25 = .ok (.iload_n 1, 1) := by decide +kernel
theorem dX0_init_26 : decode cX0_init 26 = .ok (.bipush 6, 2) := by decide +kernel
theorem dX0_init_28 : decode cX0_init 28 = .ok (.if_icmp .ge 22, 3) := by decide +kernel
theorem dX0_init_31 : decode cX0_init 31 = .ok (.aload_n 0, 1) := by decide +kernel
theorem dX0_init_32 : decode cX0_init 32 = .ok (.getfield 11, 3) := by decide +kernel
theorem dX0_init_35 : decode cX0_init 35 = .ok (.iload_n 1, 1) := by decide +kernel
theorem dX0_init_36 : decode cX0_init 36 = .ok (.new 9, 3) := by decide +kernel
theorem dX0_init_39 : decode cX0_init 39 = .ok (.dup, 1) := by decide +kernel
theorem dX0_init_40 : decode cX0_init 40 = .ok (.invokespecial 24, 3) := by decide +kernel
theorem dX0_init_43 : decode cX0_init 43 = .ok (.aastore, 1) := by decide +kernel
theorem dX0_init_44 : decode cX0_init 44 = .ok (.iinc 1 1, 3) := by decide +kernel
theorem dX0_init_47 : decode cX0_init 47 = .ok (.goto (-22), 3) := by decide +kernel
theorem dX0_init_50 : decode cX0_init 50 = .ok (.return_, 1) := by decide +kernel
theorem dX0_beginAnew_0 : decode cX0_beginAnew 0 = .ok (.aload_n 0, 1) := by decide +kernel
theorem dX0_beginAnew_1 : decode cX0_beginAnew 1 = .ok (.iload_n 1, 1) := by decide +kernel
theorem dX0_beginAnew_2 : decode cX0_beginAnew 2 = .ok (.putfield 21, 3) := by decide +kernel
theorem dX0_beginAnew_5 : decode cX0_beginAnew 5 = .ok (.aload_n 0, 1) := by decide +kernel
theorem dX0_beginAnew_6 : decode cX0_beginAnew 6 = .ok (.iconst 0, 1) := by decide +kernel
theorem dX0_beginAnew_7 : decode cX0_beginAnew 7 = .ok (.putfield 17, 3) := by decide +kernel
theorem dX0_beginAnew_10 : decode cX0_beginAnew 10 = .ok (.return_, 1) := by decide +kernel
set_option maxRecDepth 20000 in
theorem ggX0_addRound_X2_beginAnew : GoodIn wsX0_addRound wsX2_beginAnew := goodIn_r _ [7, 8, 9, 13, 14, 15, 16] (by decide +kernel) (by decide +kernel)
set_option maxRecDepth 20000 in
theorem gX0_addRound_X2_beginAnew : GoodIn wsX0_addRound (wsV RX0 25 RX2 yX2_beginAnew wsX2_beginAnew) := goodIn_app (goodIn_of _ (by decide +kernel)) ggX0_addRound_X2_beginAnew
theorem dX0_addRound_0 : decode cX0_addRound 0 = .ok (.aload_n 0, 1) := by decide +kernel
theorem dX0_addRound_1 : decode cX0_addRound 1 = .ok (.getfield 17, 3) := by decide +kernel
theorem dX0_addRound_4 : decode cX0_addRound 4 = .ok (.bipush 6, 2) := by decide +kernel
theorem dX0_addRound_6 : decode cX0_addRound 6 = .ok (.if_icmp .lt 6, 3) := by decide +kernel
theorem dX0_addRound_9 : decode cX0_addRound 9 = .ok (.bipush (-2), 2) := by decide +kernel
theorem dX0_addRound_11 : decode cX0_addRound 11 = .ok (.ireturn, 1) := by decide +kernel
theorem dX0_addRound_12 : decode cX0_addRound 12 = .ok (.aload_n 0, 1) := by decide +kernel
theorem dX0_addRound_13 : decode cX0_addRound 13 = .ok (.getfield 11, 3) := by decide +kernel
theorem dX0_addRound_16 : decode cX0_addRound 16 = .ok (.aload_n 0, 1) := by decide +kernel
theorem dX0_addRound_17 : decode cX0_addRound 17 = .ok (.getfield 17, 3) := by decide +kernel
theorem dX0_addRound_20 : decode cX0_addRound 20 = .ok (.aaload, 1) := by decide +kernel
theorem dX0_addRound_21 : decode cX0_addRound 21 = .ok (.iload_n 1, 1) := by decide +kernel
theorem dX0_addRound_22 : decode cX0_addRound 22 = .ok (.invokevirtual 25, 3) := by decide +kernel
theorem dX0_addRound_25 : decode cX0_addRound 25 = .ok (.aload_n 0, 1) := by decide +kernel
theorem dX0_addRound_26 : decode cX0_addRound 26 = .ok (.dup, 1) := by decide +kernel
theorem dX0_addRound_27 : decode cX0_addRound 27 = .ok (.getfield 17, 3) := by decide +kernel
theorem dX0_addRound_30 : decode cX0_addRound 30 = .ok (.dup_x1, 1) := by decide +kernel
theorem dX0_addRound_31 : decode cX0_addRound 31 = .ok (.iconst 1, 1) := by decide +kernel
theorem dX0_addRound_32 : decode cX0_addRound 32 = .ok (.iadd, 1) := by decide +kernel
theorem dX0_addRound_33 : decode cX0_addRound 33 = .ok (.putfield 17, 3) := by decide +kernel
theorem dX0_addRound_36 : decode cX0_addRound 36 = .ok (.ireturn, 1) := by decide +kernel
theorem dX1_init_0 : decode cX1_init 0 = .ok (.aload_n 0, 1) := by decide +kernel
theorem dX1_init_1 : decode cX1_init 1 = .ok (.invokespecial 3, 3) := by decide +kernel
theorem dX1_init_4 : decode cX1_init 4 = .ok (.aload_n 0, 1) := by decide +kernel
theorem dX1_init_5 : decode cX1_init 5 = .ok (.bipush 7, 2) := by decide +kernel
theorem dX1_init_7 : decode cX1_init 7 = .ok (.newarray .int, 2) := by decide +kernel
theorem dX1_init_9 : decode cX1_init 9 = .ok (.putfield 9, 3) := by decide +kernel
theorem dX1_init_12 : decode cX1_init 12 = .ok (.aload_n 0, 1) := by decide +kernel
theorem dX1_init_13 : decode cX1_init 13 = .ok (.sipush 400, 3) := by decide +kernel
theorem dX1_init_16 : decode cX1_init 16 = .ok (.newarray .int, 2) := by decide +kernel
theorem dX1_init_18 : decode cX1_init 18 = .ok (.putfield 15, 3) := by decide +kernel
theorem dX1_init_21 : decode cX1_init 21 = .ok (.aload_n 0, 1) := by decide +kernel
theorem dX1_init_22 : decode cX1_init 22 = .ok (.iconst 0, 1) := by decide +kernel
theorem dX1_init_23 : decode cX1_init 23 = .ok (.putfield 18, 3) := by decide +kernel
theorem dX1_init_26 : decode cX1_init 26 = .ok (.aload_n 0, 1) := by decide +kernel
theorem dX1_init_27 : decode cX1_init 27 = .ok (.bipush 24, 2) := by decide +kernel
theorem dX1_init_29 : decode cX1_init 29 = .ok (.newarray .int, 2) := by decide +kernel
theorem dX1_init_31 : decode cX1_init 31 = .ok (.putfield 22, 3) := by decide +kernel
theorem dX1_init_34 : decode cX1_init 34 = .ok (.aload_n 0, 1) := by decide +kernel
theorem dX1_init_35 : decode cX1_init 35 = .ok (.iconst 0, 1) := by decide +kernel
theorem dX1_init_36 : decode cX1_init 36 = .ok (.putfield 25, 3) := by decide +kernel
theorem dX1_init_39 : decode cX1_init 39 = .ok (.aload_n 0, 1) := by decide +kernel
theorem dX1_init_40 : decode cX1_init 40 = .ok (.iconst 4, 1) := by decide +kernel
theorem dX1_init_41 : decode cX1_init 41 = .ok (.newarray .int, 2) := by decide +kernel
theorem dX1_init_43 : decode cX1_init 43 = .ok (.putfield 28, 3) := by decide +kernel
theorem dX1_init_46 : decode cX1_init 46 = .ok (.aload_n 0, 1) := by decide +kernel
theorem dX1_init_47 : decode cX1_init 47 = .ok (.iconst 0, 1) := by decide +kernel
theorem dX1_init_48 : decode cX1_init 48 = .ok (.putfield 31, 3) := by decide +kernel
theorem dX1_init_51 : decode cX1_init 51 = .ok (.return_, 1) := by decide +kernel
theorem dX1_beginAnew_0 : decode cX1_beginAnew 0 = .ok (.iconst 1, 1) := by decide +kernel
theorem dX1_beginAnew_1 : decode cX1_beginAnew 1 = .ok (.istore_n 1, 1) := by decide +kernel
theorem dX1_beginAnew_2 : decode cX1_beginAnew 2 = .ok (.iload_n 1, 1) := by decide +kernel
theorem dX1_beginAnew_3 : decode cX1_beginAnew 3 = .ok (.bipush 6, 2) := by decide +kernel
theorem dX1_beginAnew_5 : decode cX1_beginAnew 5 = .ok (.if_icmp .gt 16, 3) := by decide +kernel
theorem dX1_beginAnew_8 : decode cX1_beginAnew 8 = .ok (.aload_n 0, 1) := by decide +kernel
theorem dX1_beginAnew_9 : decode cX1_beginAnew 9 = .ok (.getfield 9, 3) := by decide +kernel
theorem dX1_beginAnew_12 : decode cX1_beginAnew 12 = .ok (.iload_n 1, 1) := by decide +kernel
theorem dX1_beginAnew_13 : decode cX1_beginAnew 13 = .ok (.iconst 0, 1) := by decide +kernel
theorem dX1_beginAnew_14 : decode cX1_beginAnew 14 = .ok (.iastore, 1) := by decide +kernel
theorem dX1_beginAnew_15 : decode cX1_beginAnew 15 = .ok (.iinc 1 1, 3) := by decide +kernel
theorem dX1_beginAnew_18 : decode cX1_beginAnew 18 = .ok (.goto (-16), 3) := by decide +kernel
theorem dX1_beginAnew_21 : decode cX1_beginAnew 21 = .ok (.aload_n 0, 1) := by decide +kernel
theorem dX1_beginAnew_22 : decode cX1_beginAnew 22 = .ok (.iconst 0, 1) := by decide +kernel
theorem dX1_beginAnew_23 : decode cX1_beginAnew 23 = .ok (.putfield 18, 3) := by decide +kernel
theorem dX1_beginAnew_26 : decode cX1_beginAnew 26 = .ok (.aload_n 0, 1) := by decide +kernel
theorem dX1_beginAnew_27 : decode cX1_beginAnew 27 = .ok (.iconst 0, 1) := by decide +kernel
theorem dX1_beginAnew_28 : decode cX1_beginAnew 28 = .ok (.putfield 25, 3) := by decide +kernel
theorem dX1_beginAnew_31 : decode cX1_beginAnew 31 = .ok (.aload_n 0, 1) := by decide +kernel
theorem dX1_beginAnew_32 : decode cX1_beginAnew 32 = .ok (.iconst 0, 1) := by decide +kernel
theorem dX1_beginAnew_33 : decode cX1_beginAnew 33 = .ok (.putfield 31, 3) := by decide +kernel
theorem dX1_beginAnew_36 : decode cX1_beginAnew 36 = .ok (.return_, 1) := by decide +kernel
theorem dX1_mark_0 : decode cX1_mark 0 = .ok (.aload_n 0, 1) := by decide +kernel
theorem dX1_mark_1 : decode cX1_mark 1 = .ok (.getfield 9, 3) := by decide +kernel
theorem dX1_mark_4 : decode cX1_mark 4 = .ok (.iload_n 1, 1) := by decide +kernel
theorem dX1_mark_5 : decode cX1_mark 5 = .ok (.dup2, 1) := by decide +kernel
theorem dX1_mark_6 : decode cX1_mark 6 = .ok (.iaload, 1) := by decide +kernel
theorem dX1_mark_7 : decode cX1_mark 7 = .ok (.iconst 1, 1) := by decide +kernel
theorem dX1_mark_8 : decode cX1_mark 8 = .ok (.iadd, 1) := by decide +kernel
theorem dX1_mark_9 : decode cX1_mark 9 = .ok (.iastore, 1) := by decide +kernel
theorem dX1_mark_10 : decode cX1_mark 10 = .ok (.aload_n 0, 1) := by decide +kernel
theorem dX1_mark_11 : decode cX1_mark 11 = .ok (.getfield 18, 3) := by decide +kernel
theorem dX1_mark_14 : decode cX1_mark 14 = .ok (.sipush 400, 3) := by decide +kernel
theorem dX1_mark_17 : decode cX1_mark 17 = .ok (.if_icmp .ge 13, 3) := by decide +kernel
theorem dX1_mark_20 : decode cX1_mark 20 = .ok (.aload_n 0, 1) := by decide +kernel
theorem dX1_mark_21 : decode cX1_mark 21 = .ok (.getfield 15, 3) := by decide +kernel
theorem dX1_mark_24 : decode cX1_mark 24 = .ok (.aload_n 0, 1) := by decide +kernel
theorem dX1_mark_25 : decode cX1_mark 25 = .ok (.getfield 18, 3) := by decide +kernel
theorem dX1_mark_28 : decode cX1_mark 28 = .ok (.iload_n 1, 1) := by decide +kernel
theorem dX1_mark_29 : decode cX1_mark 29 = .ok (.iastore, 1) := by decide +kernel
theorem dX1_mark_30 : decode cX1_mark 30 = .ok (.aload_n 0, 1) := by decide +kernel
theorem dX1_mark_31 : decode cX1_mark 31 = .ok (.dup, 1) := by decide +kernel
theorem dX1_mark_32 : decode cX1_mark 32 = .ok (.getfield 18, 3) := by decide +kernel
theorem dX1_mark_35 : decode cX1_mark 35 = .ok (.iconst 1, 1) := by decide +kernel
theorem dX1_mark_36 : decode cX1_mark 36 = .ok (.iadd, 1) := by decide +kernel
theorem dX1_mark_37 : decode cX1_mark 37 = .ok (.putfield 18, 3) := by decide +kernel
theorem dX1_mark_40 : decode cX1_mark 40 = .ok (.return_, 1) := by decide +kernel
theorem dX1_fail_0 : decode cX1_fail 0 = .ok (.iload_n 1, 1) := by decide +kernel
theorem dX1_fail_1 : decode cX1_fail 1 = .ok (.iconst 3, 1) := by decide +kernel
theorem dX1_fail_2 : decode cX1_fail 2 = .ok (.if_icmp .lt 13, 3) := by decide +kernel
theorem dX1_fail_5 : decode cX1_fail 5 = .ok (.iload_n 1, 1) := by decide +kernel
theorem dX1_fail_6 : decode cX1_fail 6 = .ok (.bipush 8, 2) := by decide +kernel
theorem dX1_fail_8 : decode cX1_fail 8 = .ok (.if_icmp .gt 7, 3) := by decide +kernel
theorem dX1_fail_11 : decode cX1_fail 11 = .ok (.iconst 1, 1) := by decide +kernel
theorem dX1_fail_12 : decode cX1_fail 12 = .ok (.goto 4, 3) := by decide +kernel
theorem dX1_fail_15 : decode cX1_fail 15 = .ok (.iconst 0, 1) := by decide +kernel
theorem dX1_fail_16 : decode cX1_fail 16 = .ok (.istore_n 2, 1) := by decide +kernel
theorem dX1_fail_17 : decode cX1_fail 17 = .ok (.aload_n 0, 1) := by decide +kernel
theorem dX1_fail_18 : decode cX1_fail 18 = .ok (.getfield 28, 3) := by decide +kernel
theorem dX1_fail_21 : decode cX1_fail 21 = .ok (.iconst 0, 1) := by decide +kernel
theorem dX1_fail_22 : decode cX1_fail 22 = .ok (.iload_n 2, 1) := by decide +kernel
theorem dX1_fail_23 : decode cX1_fail 23 = .ok (.ifCond .eq 10, 3) := by decide +kernel
theorem dX1_fail_26 : decode cX1_fail 26 = .ok (.bipush 100, 2) := by decide +kernel
theorem dX1_fail_28 : decode cX1_fail 28 = .ok (.iload_n 1, 1) := by decide +kernel
theorem dX1_fail_29 : decode cX1_fail 29 = .ok (.iadd, 1) := by decide +kernel
theorem dX1_fail_30 : decode cX1_fail 30 = .ok (.goto 4, 3) := by decide +kernel
theorem dX1_fail_33 : decode cX1_fail 33 = .ok (.iload_n 1, 1) := by decide +kernel
theorem dX1_fail_34 : decode cX1_fail 34 = .ok (.iastore, 1) := by decide +kernel
theorem dX1_fail_35 : decode cX1_fail 35 = .ok (.aload_n 0, 1) := by decide +kernel
theorem dX1_fail_36 : decode cX1_fail 36 = .ok (.getfield 28, 3) := by decide +kernel
theorem dX1_fail_39 : decode cX1_fail 39 = .ok (.iconst 1, 1) := by decide +kernel
theorem dX1_fail_40 : decode cX1_fail 40 = .ok (.iload_n 1, 1) := by decide +kernel
theorem dX1_fail_41 : decode cX1_fail 41 = .ok (.iastore, 1) := by decide +kernel
theorem dX1_fail_42 : decode cX1_fail 42 = .ok (.aload_n 0, 1) := by decide +kernel
theorem dX1_fail_43 : decode cX1_fail 43 = .ok (.iload_n 2, 1) := by decide +kernel
theorem dX1_fail_44 : decode cX1_fail 44 = .ok (.ifCond .eq 7, 3) := by decide +kernel
theorem dX1_fail_47 : decode cX1_fail 47 = .ok (.iconst 2, 1) := by decide +kernel
theorem dX1_fail_48 : decode cX1_fail 48 = .ok (.goto 4, 3) := by decide +kernel
theorem dX1_fail_51 : decode cX1_fail 51 = .ok (.iconst 1, 1) := by decide +kernel
theorem dX1_fail_52 : decode cX1_fail 52 = .ok (.putfield 31, 3) := by decide +kernel
theorem dX1_fail_55 : decode cX1_fail 55 = .ok (.getstatic 34, 3) := by decide +kernel
theorem dX1_fail_58 : decode cX1_fail 58 = .ok (.areturn, 1) := by decide +kernel
theorem dX1_failAsLaid_0 : decode cX1_failAsLaid 0 = .ok (.aload_n 0, 1) := by decide +kernel
theorem dX1_failAsLaid_1 : decode cX1_failAsLaid 1 = .ok (.getfield 28, 3) := by decide +kernel
theorem dX1_failAsLaid_4 : decode cX1_failAsLaid 4 = .ok (.iconst 0, 1) := by decide +kernel
theorem dX1_failAsLaid_5 : decode cX1_failAsLaid 5 = .ok (.iload_n 1, 1) := by decide +kernel
theorem dX1_failAsLaid_6 : decode cX1_failAsLaid 6 = .ok (.iastore, 1) := by decide +kernel
theorem dX1_failAsLaid_7 : decode cX1_failAsLaid 7 = .ok (.aload_n 0, 1) := by decide +kernel
theorem dX1_failAsLaid_8 : decode cX1_failAsLaid 8 = .ok (.iconst 1, 1) := by decide +kernel
theorem dX1_failAsLaid_9 : decode cX1_failAsLaid 9 = .ok (.putfield 31, 3) := by decide +kernel
theorem dX1_failAsLaid_12 : decode cX1_failAsLaid 12 = .ok (.getstatic 34, 3) := by decide +kernel
theorem dX1_failAsLaid_15 : decode cX1_failAsLaid 15 = .ok (.areturn, 1) := by decide +kernel
theorem dX1_failInStead_0 : decode cX1_failInStead 0 = .ok (.aload_n 0, 1) := by decide +kernel
theorem dX1_failInStead_1 : decode cX1_failInStead 1 = .ok (.getfield 31, 3) := by decide +kernel
theorem dX1_failInStead_4 : decode cX1_failInStead 4 = .ok (.iconst 4, 1) := by decide +kernel
theorem dX1_failInStead_5 : decode cX1_failInStead 5 = .ok (.if_icmp .ge 23, 3) := by decide +kernel
theorem dX1_failInStead_8 : decode cX1_failInStead 8 = .ok (.aload_n 0, 1) := by decide +kernel
theorem dX1_failInStead_9 : decode cX1_failInStead 9 = .ok (.getfield 28, 3) := by decide +kernel
theorem dX1_failInStead_12 : decode cX1_failInStead 12 = .ok (.aload_n 0, 1) := by decide +kernel
theorem dX1_failInStead_13 : decode cX1_failInStead 13 = .ok (.getfield 31, 3) := by decide +kernel
theorem dX1_failInStead_16 : decode cX1_failInStead 16 = .ok (.iload_n 1, 1) := by decide +kernel
theorem dX1_failInStead_17 : decode cX1_failInStead 17 = .ok (.iastore, 1) := by decide +kernel
theorem dX1_failInStead_18 : decode cX1_failInStead 18 = .ok (.aload_n 0, 1) := by decide +kernel
theorem dX1_failInStead_19 : decode cX1_failInStead 19 = .ok (.dup, 1) := by decide +kernel
theorem dX1_failInStead_20 : decode cX1_failInStead 20 = .ok (.getfield 31, 3) := by decide +kernel
theorem dX1_failInStead_23 : decode cX1_failInStead 23 = .ok (.iconst 1, 1) := by decide +kernel
theorem dX1_failInStead_24 : decode cX1_failInStead 24 = .ok (.iadd, 1) := by decide +kernel
theorem dX1_failInStead_25 : decode cX1_failInStead 25 = .ok (.putfield 31, 3) := by decide +kernel
theorem dX1_failInStead_28 : decode cX1_failInStead 28 = .ok (.return_, 1) := by decide +kernel
theorem dX1_noteFailure_0 : decode cX1_noteFailure 0 = .ok (.aload_n 0, 1) := by decide +kernel
theorem dX1_noteFailure_1 : decode cX1_noteFailure 1 = .ok (.getfield 31, 3) := by decide +kernel
theorem dX1_noteFailure_4 : decode cX1_noteFailure 4 = .ok (.ifCond .le 42, 3) := by decide +kernel
theorem dX1_noteFailure_7 : decode cX1_noteFailure 7 = .ok (.aload_n 0, 1) := by decide +kernel
theorem dX1_noteFailure_8 : decode cX1_noteFailure 8 = .ok (.getfield 25, 3) := by decide +kernel
theorem dX1_noteFailure_11 : decode cX1_noteFailure 11 = .ok (.bipush 24, 2) := by decide +kernel
theorem dX1_noteFailure_13 : decode cX1_noteFailure 13 = .ok (.if_icmp .ge 33, 3) := by decide +kernel
theorem dX1_noteFailure_16 : decode cX1_noteFailure 16 = .ok (.aload_n 0, 1) := by decide +kernel
theorem dX1_noteFailure_17 : decode cX1_noteFailure 17 = .ok (.getfield 22, 3) := by decide +kernel
theorem dX1_noteFailure_20 : decode cX1_noteFailure 20 = .ok (.aload_n 0, 1) := by decide +kernel
theorem dX1_noteFailure_21 : decode cX1_noteFailure 21 = .ok (.getfield 25, 3) := by decide +kernel
theorem dX1_noteFailure_24 : decode cX1_noteFailure 24 = .ok (.aload_n 0, 1) := by decide +kernel
theorem dX1_noteFailure_25 : decode cX1_noteFailure 25 = .ok (.getfield 28, 3) := by decide +kernel
theorem dX1_noteFailure_28 : decode cX1_noteFailure 28 = .ok (.aload_n 0, 1) := by decide +kernel
theorem dX1_noteFailure_29 : decode cX1_noteFailure 29 = .ok (.getfield 31, 3) := by decide +kernel
theorem dX1_noteFailure_32 : decode cX1_noteFailure 32 = .ok (.iconst 1, 1) := by decide +kernel
theorem dX1_noteFailure_33 : decode cX1_noteFailure 33 = .ok (.isub, 1) := by decide +kernel
theorem dX1_noteFailure_34 : decode cX1_noteFailure 34 = .ok (.iaload, 1) := by decide +kernel
theorem dX1_noteFailure_35 : decode cX1_noteFailure 35 = .ok (.iastore, 1) := by decide +kernel
theorem dX1_noteFailure_36 : decode cX1_noteFailure 36 = .ok (.aload_n 0, 1) := by decide +kernel
theorem dX1_noteFailure_37 : decode cX1_noteFailure 37 = .ok (.dup, 1) := by decide +kernel
theorem dX1_noteFailure_38 : decode cX1_noteFailure 38 = .ok (.getfield 25, 3) := by decide +kernel
theorem dX1_noteFailure_41 : decode cX1_noteFailure 41 = .ok (.iconst 1, 1) := by decide +kernel
theorem dX1_noteFailure_42 : decode cX1_noteFailure 42 = .ok (.iadd, 1) := by decide +kernel
theorem dX1_noteFailure_43 : decode cX1_noteFailure 43 = .ok (.putfield 25, 3) := by decide +kernel
theorem dX1_noteFailure_46 : decode cX1_noteFailure 46 = .ok (.aload_n 0, 1) := by decide +kernel
theorem dX1_noteFailure_47 : decode cX1_noteFailure 47 = .ok (.iconst 0, 1) := by decide +kernel
theorem dX1_noteFailure_48 : decode cX1_noteFailure 48 = .ok (.putfield 31, 3) := by decide +kernel
theorem dX1_noteFailure_51 : decode cX1_noteFailure 51 = .ok (.return_, 1) := by decide +kernel
theorem dX2_init_0 : decode cX2_init 0 = .ok (.aload_n 0, 1) := by decide +kernel
theorem dX2_init_1 : decode cX2_init 1 = .ok (.invokespecial 3, 3) := by decide +kernel
theorem dX2_init_4 : decode cX2_init 4 = .ok (.aload_n 0, 1) := by decide +kernel
theorem dX2_init_5 : decode cX2_init 5 = .ok (.bipush 8, 2) := by decide +kernel
theorem dX2_init_7 : decode cX2_init 7 = .ok (.newarray .int, 2) := by decide +kernel
theorem dX2_init_9 : decode cX2_init 9 = .ok (.putfield 9, 3) := by decide +kernel
theorem dX2_init_12 : decode cX2_init 12 = .ok (.aload_n 0, 1) := by decide +kernel
theorem dX2_init_13 : decode cX2_init 13 = .ok (.bipush 8, 2) := by decide +kernel
theorem dX2_init_15 : decode cX2_init 15 = .ok (.newarray .int, 2) := by decide +kernel
theorem dX2_init_17 : decode cX2_init 17 = .ok (.putfield 15, 3) := by decide +kernel
theorem dX2_init_20 : decode cX2_init 20 = .ok (.aload_n 0, 1) := by decide +kernel
theorem dX2_init_21 : decode cX2_init 21 = .ok (.iconst 0, 1) := by decide +kernel
theorem dX2_init_22 : decode cX2_init 22 = .ok (.putfield 18, 3) := by decide +kernel
theorem dX2_init_25 : decode cX2_init 25 = .ok (.aload_n 0, 1) := by decide +kernel
theorem dX2_init_26 : decode cX2_init 26 = .ok (.iconst 0, 1) := by decide +kernel
theorem dX2_init_27 : decode cX2_init 27 = .ok (.putfield 22, 3) := by decide +kernel
theorem dX2_init_30 : decode cX2_init 30 = .ok (.return_, 1) := by decide +kernel
theorem dX2_beginAnew_0 : decode cX2_beginAnew 0 = .ok (.aload_n 0, 1) := by decide +kernel
theorem dX2_beginAnew_1 : decode cX2_beginAnew 1 = .ok (.iload_n 1, 1) := by decide +kernel
theorem dX2_beginAnew_2 : decode cX2_beginAnew 2 = .ok (.putfield 22, 3) := by decide +kernel
theorem dX2_beginAnew_5 : decode cX2_beginAnew 5 = .ok (.aload_n 0, 1) := by decide +kernel
theorem dX2_beginAnew_6 : decode cX2_beginAnew 6 = .ok (.iconst 0, 1) := by decide +kernel
theorem dX2_beginAnew_7 : decode cX2_beginAnew 7 = .ok (.putfield 18, 3) := by decide +kernel
theorem dX2_beginAnew_10 : decode cX2_beginAnew 10 = .ok (.return_, 1) := by decide +kernel
theorem dX2_addStep_0 : decode cX2_addStep 0 = .ok (.aload_n 0, 1) := by decide +kernel
theorem dX2_addStep_1 : decode cX2_addStep 1 = .ok (.getfield 18, 3) := by decide +kernel
theorem dX2_addStep_4 : decode cX2_addStep 4 = .ok (.bipush 8, 2) := by decide +kernel
theorem dX2_addStep_6 : decode cX2_addStep 6 = .ok (.if_icmp .lt 6, 3) := by decide +kernel
theorem dX2_addStep_9 : decode cX2_addStep 9 = .ok (.bipush (-2), 2) := by decide +kernel
theorem dX2_addStep_11 : decode cX2_addStep 11 = .ok (.ireturn, 1) := by decide +kernel
theorem dX2_addStep_12 : decode cX2_addStep 12 = .ok (.aload_n 0, 1) := by decide +kernel
theorem dX2_addStep_13 : decode cX2_addStep 13 = .ok (.getfield 9, 3) := by decide +kernel
theorem dX2_addStep_16 : decode cX2_addStep 16 = .ok (.aload_n 0, 1) := by decide +kernel
theorem dX2_addStep_17 : decode cX2_addStep 17 = .ok (.getfield 18, 3) := by decide +kernel
theorem dX2_addStep_20 : decode cX2_addStep 20 = .ok (.iload_n 1, 1) := by decide +kernel
theorem dX2_addStep_21 : decode cX2_addStep 21 = .ok (.iastore, 1) := by decide +kernel
theorem dX2_addStep_22 : decode cX2_addStep 22 = .ok (.aload_n 0, 1) := by decide +kernel
theorem dX2_addStep_23 : decode cX2_addStep 23 = .ok (.getfield 15, 3) := by decide +kernel
theorem dX2_addStep_26 : decode cX2_addStep 26 = .ok (.aload_n 0, 1) := by decide +kernel
theorem dX2_addStep_27 : decode cX2_addStep 27 = .ok (.getfield 18, 3) := by decide +kernel
theorem dX2_addStep_30 : decode cX2_addStep 30 = .ok (.iload_n 2, 1) := by decide +kernel
theorem dX2_addStep_31 : decode cX2_addStep 31 = .ok (.iastore, 1) := by decide +kernel
theorem dX2_addStep_32 : decode cX2_addStep 32 = .ok (.aload_n 0, 1) := by decide +kernel
theorem dX2_addStep_33 : decode cX2_addStep 33 = .ok (.dup, 1) := by decide +kernel
theorem dX2_addStep_34 : decode cX2_addStep 34 = .ok (.getfield 18, 3) := by decide +kernel
theorem dX2_addStep_37 : decode cX2_addStep 37 = .ok (.dup_x1, 1) := by decide +kernel
theorem dX2_addStep_38 : decode cX2_addStep 38 = .ok (.iconst 1, 1) := by decide +kernel
theorem dX2_addStep_39 : decode cX2_addStep 39 = .ok (.iadd, 1) := by decide +kernel
theorem dX2_addStep_40 : decode cX2_addStep 40 = .ok (.putfield 18, 3) := by decide +kernel
theorem dX2_addStep_43 : decode cX2_addStep 43 = .ok (.ireturn, 1) := by decide +kernel
theorem dX3_init_0 : decode cX3_init 0 = .ok (.aload_n 0, 1) := by decide +kernel
theorem dX3_init_1 : decode cX3_init 1 = .ok (.invokespecial 3, 3) := by decide +kernel
theorem dX3_init_4 : decode cX3_init 4 = .ok (.aload_n 0, 1) := by decide +kernel
theorem dX3_init_5 : decode cX3_init 5 = .ok (.bipush 18, 2) := by decide +kernel
theorem dX3_init_7 : decode cX3_init 7 = .ok (.newarray .int, 2) := by decide +kernel
theorem dX3_init_9 : decode cX3_init 9 = .ok (.putfield 9, 3) := by decide +kernel
theorem dX3_init_12 : decode cX3_init 12 = .ok (.aload_n 0, 1) := by decide +kernel
theorem dX3_init_13 : decode cX3_init 13 = .ok (.bipush (-4), 2) := by decide +kernel
theorem dX3_init_15 : decode cX3_init 15 = .ok (.putfield 15, 3) := by decide +kernel
theorem dX3_init_18 : decode cX3_init 18 = .ok (.aload_n 0, 1) := by decide +kernel
theorem dX3_init_19 : decode cX3_init 19 = .ok (.bipush (-4), 2) := by decide +kernel
theorem dX3_init_21 : decode cX3_init 21 = .ok (.putfield 19, 3) := by decide +kernel
theorem dX3_init_24 : decode cX3_init 24 = .ok (.aload_n 0, 1) := by decide +kernel
theorem dX3_init_25 : decode cX3_init 25 = .ok (.iconst 2, 1) := by decide +kernel
theorem dX3_init_26 : decode cX3_init 26 = .ok (.putfield 22, 3) := by decide +kernel
theorem dX3_init_29 : decode cX3_init 29 = .ok (.aload_n 0, 1) := by decide +kernel
theorem dX3_init_30 : decode cX3_init 30 = .ok (.bipush (-4), 2) := by decide +kernel
theorem dX3_init_32 : decode cX3_init 32 = .ok (.putfield 25, 3) := by decide +kernel
theorem dX3_init_35 : decode cX3_init 35 = .ok (.aload_n 0, 1) := by decide +kernel
theorem dX3_init_36 : decode cX3_init 36 = .ok (.bipush (-4), 2) := by decide +kernel
theorem dX3_init_38 : decode cX3_init 38 = .ok (.putfield 28, 3) := by decide +kernel
theorem dX3_init_41 : decode cX3_init 41 = .ok (.return_, 1) := by decide +kernel
theorem dX3_newRack_0 : decode cX3_newRack 0 = .ok (.iload_n 1, 1) := by decide +kernel
theorem dX3_newRack_1 : decode cX3_newRack 1 = .ok (.ifCond .ge 5, 3) := by decide +kernel
theorem dX3_newRack_4 : decode cX3_newRack 4 = .ok (.iconst 0, 1) := by decide +kernel
theorem dX3_newRack_5 : decode cX3_newRack 5 = .ok (.ireturn, 1) := by decide +kernel
theorem dX3_newRack_6 : decode cX3_newRack 6 = .ok (.aload_n 0, 1) := by decide +kernel
theorem dX3_newRack_7 : decode cX3_newRack 7 = .ok (.iload_n 1, 1) := by decide +kernel
theorem dX3_newRack_8 : decode cX3_newRack 8 = .ok (.putfield 15, 3) := by decide +kernel
theorem dX3_newRack_11 : decode cX3_newRack 11 = .ok (.iconst 1, 1) := by decide +kernel
theorem dX3_newRack_12 : decode cX3_newRack 12 = .ok (.ireturn, 1) := by decide +kernel
theorem dX3_newBox_0 : decode cX3_newBox 0 = .ok (.iload_n 1, 1) := by decide +kernel
theorem dX3_newBox_1 : decode cX3_newBox 1 = .ok (.ifCond .lt 9, 3) := by decide +kernel
theorem dX3_newBox_4 : decode cX3_newBox 4 = .ok (.iload_n 1, 1) := by decide +kernel
theorem dX3_newBox_5 : decode cX3_newBox 5 = .ok (.bipush 18, 2) := by decide +kernel
theorem dX3_newBox_7 : decode cX3_newBox 7 = .ok (.if_icmp .le 5, 3) := by decide +kernel
theorem dX3_newBox_10 : decode cX3_newBox 10 = .ok (.iconst 0, 1) := by decide +kernel
theorem dX3_newBox_11 : decode cX3_newBox 11 = .ok (.ireturn, 1) := by decide +kernel
theorem dX3_newBox_12 : decode cX3_newBox 12 = .ok (.iconst 0, 1) := by decide +kernel
theorem dX3_newBox_13 : decode cX3_newBox 13 = .ok (.istore_n 3, 1) := by decide +kernel
theorem dX3_newBox_14 : decode cX3_newBox 14 = .ok (.iload_n 3, 1) := by decide +kernel
theorem dX3_newBox_15 : decode cX3_newBox 15 = .ok (.iload_n 1, 1) := by decide +kernel
theorem dX3_newBox_16 : decode cX3_newBox 16 = .ok (.if_icmp .ge 17, 3) := by decide +kernel
theorem dX3_newBox_19 : decode cX3_newBox 19 = .ok (.aload_n 0, 1) := by decide +kernel
theorem dX3_newBox_20 : decode cX3_newBox 20 = .ok (.getfield 9, 3) := by decide +kernel
theorem dX3_newBox_23 : decode cX3_newBox 23 = .ok (.iload_n 3, 1) := by decide +kernel
theorem dX3_newBox_24 : decode cX3_newBox 24 = .ok (.bipush (-4), 2) := by decide +kernel
theorem dX3_newBox_26 : decode cX3_newBox 26 = .ok (.iastore, 1) := by decide +kernel
theorem dX3_newBox_27 : decode cX3_newBox 27 = .ok (.iinc 3 1, 3) := by decide +kernel
theorem dX3_newBox_30 : decode cX3_newBox 30 = .ok (.goto (-16), 3) := by decide +kernel
theorem dX3_newBox_33 : decode cX3_newBox 33 = .ok (.aload_n 0, 1) := by decide +kernel
theorem dX3_newBox_34 : decode cX3_newBox 34 = .ok (.iload_n 1, 1) := by decide +kernel
theorem dX3_newBox_35 : decode cX3_newBox 35 = .ok (.putfield 19, 3) := by decide +kernel
theorem dX3_newBox_38 : decode cX3_newBox 38 = .ok (.aload_n 0, 1) := by decide +kernel
theorem dX3_newBox_39 : decode cX3_newBox 39 = .ok (.iload_n 2, 1) := by decide +kernel
theorem dX3_newBox_40 : decode cX3_newBox 40 = .ok (.putfield 22, 3) := by decide +kernel
theorem dX3_newBox_43 : decode cX3_newBox 43 = .ok (.iconst 1, 1) := by decide +kernel
theorem dX3_newBox_44 : decode cX3_newBox 44 = .ok (.ireturn, 1) := by decide +kernel
theorem dX3_newGrid_0 : decode cX3_newGrid 0 = .ok (.iload_n 1, 1) := by decide +kernel
theorem dX3_newGrid_1 : decode cX3_newGrid 1 = .ok (.ifCond .lt 7, 3) := by decide +kernel
theorem dX3_newGrid_4 : decode cX3_newGrid 4 = .ok (.iload_n 2, 1) := by decide +kernel
theorem dX3_newGrid_5 : decode cX3_newGrid 5 = .ok (.ifCond .ge 5, 3) := by decide +kernel
theorem dX3_newGrid_8 : decode cX3_newGrid 8 = .ok (.iconst 0, 1) := by decide +kernel
theorem dX3_newGrid_9 : decode cX3_newGrid 9 = .ok (.ireturn, 1) := by decide +kernel
theorem dX3_newGrid_10 : decode cX3_newGrid 10 = .ok (.aload_n 0, 1) := by decide +kernel
theorem dX3_newGrid_11 : decode cX3_newGrid 11 = .ok (.iload_n 1, 1) := by decide +kernel
theorem dX3_newGrid_12 : decode cX3_newGrid 12 = .ok (.putfield 25, 3) := by decide +kernel
theorem dX3_newGrid_15 : decode cX3_newGrid 15 = .ok (.aload_n 0, 1) := by decide +kernel
theorem dX3_newGrid_16 : decode cX3_newGrid 16 = .ok (.iload_n 2, 1) := by decide +kernel
theorem dX3_newGrid_17 : decode cX3_newGrid 17 = .ok (.putfield 28, 3) := by decide +kernel
theorem dX3_newGrid_20 : decode cX3_newGrid 20 = .ok (.iconst 1, 1) := by decide +kernel
theorem dX3_newGrid_21 : decode cX3_newGrid 21 = .ok (.ireturn, 1) := by decide +kernel
theorem dX3_boxTakes_0 : decode cX3_boxTakes 0 = .ok (.iload_n 1, 1) := by decide +kernel
theorem dX3_boxTakes_1 : decode cX3_boxTakes 1 = .ok (.iconst (-1), 1) := by decide +kernel
theorem dX3_boxTakes_2 : decode cX3_boxTakes 2 = .ok (.if_icmp .eq 19, 3) := by decide +kernel
theorem dX3_boxTakes_5 : decode cX3_boxTakes 5 = .ok (.aload_n 0, 1) := by decide +kernel
theorem dX3_boxTakes_6 : decode cX3_boxTakes 6 = .ok (.getfield 22, 3) := by decide +kernel
theorem dX3_boxTakes_9 : decode cX3_boxTakes 9 = .ok (.iconst 2, 1) := by decide +kernel
theorem dX3_boxTakes_10 : decode cX3_boxTakes 10 = .ok (.if_icmp .eq 11, 3) := by decide +kernel
theorem dX3_boxTakes_13 : decode cX3_boxTakes 13 = .ok (.iload_n 1, 1) := by decide +kernel
theorem dX3_boxTakes_14 : decode cX3_boxTakes 14 = .ok (.aload_n 0, 1) := by decide +kernel
theorem dX3_boxTakes_15 : decode cX3_boxTakes 15 = .ok (.getfield 22, 3) := by decide +kernel
theorem dX3_boxTakes_18 : decode cX3_boxTakes 18 = .ok (.if_icmp .ne 7, 3) := by decide +kernel
theorem dX3_boxTakes_21 : decode cX3_boxTakes 21 = .ok (.iconst 1, 1) := by decide +kernel
theorem dX3_boxTakes_22 : decode cX3_boxTakes 22 = .ok (.goto 4, 3) := by decide +kernel
theorem dX3_boxTakes_25 : decode cX3_boxTakes 25 = .ok (.iconst 0, 1) := by decide +kernel
theorem dX3_boxTakes_26 : decode cX3_boxTakes 26 = .ok (.ireturn, 1) := by decide +kernel
theorem dX3_sizeOf_0 : decode cX3_sizeOf 0 = .ok (.iload_n 1, 1) := by decide +kernel
theorem dX3_sizeOf_1 : decode cX3_sizeOf 1 = .ok (.tableswitch 63 0 3 #[31, 36, 41, 46], 31) := by decide +kernel
theorem dX3_sizeOf_32 : decode cX3_sizeOf 32 = .ok (.aload_n 0, 1) := by decide +kernel
theorem dX3_sizeOf_33 : decode cX3_sizeOf 33 = .ok (.getfield 15, 3) := by decide +kernel
theorem dX3_sizeOf_36 : decode cX3_sizeOf 36 = .ok (.ireturn, 1) := by decide +kernel
theorem dX3_sizeOf_37 : decode cX3_sizeOf 37 = .ok (.aload_n 0, 1) := by decide +kernel
theorem dX3_sizeOf_38 : decode cX3_sizeOf 38 = .ok (.getfield 19, 3) := by decide +kernel
theorem dX3_sizeOf_41 : decode cX3_sizeOf 41 = .ok (.ireturn, 1) := by decide +kernel
theorem dX3_sizeOf_42 : decode cX3_sizeOf 42 = .ok (.aload_n 0, 1) := by decide +kernel
theorem dX3_sizeOf_43 : decode cX3_sizeOf 43 = .ok (.getfield 25, 3) := by decide +kernel
theorem dX3_sizeOf_46 : decode cX3_sizeOf 46 = .ok (.ireturn, 1) := by decide +kernel
theorem dX3_sizeOf_47 : decode cX3_sizeOf 47 = .ok (.aload_n 0, 1) := by decide +kernel
theorem dX3_sizeOf_48 : decode cX3_sizeOf 48 = .ok (.getfield 25, 3) := by decide +kernel
theorem dX3_sizeOf_51 : decode cX3_sizeOf 51 = .ok (.ifCond .le 10, 3) := by decide +kernel
theorem dX3_sizeOf_54 : decode cX3_sizeOf 54 = .ok (.aload_n 0, 1) := by decide +kernel
theorem dX3_sizeOf_55 : decode cX3_sizeOf 55 = .ok (.getfield 28, 3) := by decide +kernel
theorem dX3_sizeOf_58 : decode cX3_sizeOf 58 = .ok (.goto 5, 3) := by decide +kernel
theorem dX3_sizeOf_61 : decode cX3_sizeOf 61 = .ok (.bipush (-4), 2) := by decide +kernel
theorem dX3_sizeOf_63 : decode cX3_sizeOf 63 = .ok (.ireturn, 1) := by decide +kernel
theorem dX3_sizeOf_64 : decode cX3_sizeOf 64 = .ok (.bipush (-4), 2) := by decide +kernel
theorem dX3_sizeOf_66 : decode cX3_sizeOf 66 = .ok (.ireturn, 1) := by decide +kernel
theorem dX4_init_0 : decode cX4_init 0 = .ok (.aload_n 0, 1) := by decide +kernel
theorem dX4_init_1 : decode cX4_init 1 = .ok (.invokespecial 3, 3) := by decide +kernel
theorem dX4_init_4 : decode cX4_init 4 = .ok (.aload_n 0, 1) := by decide +kernel
theorem dX4_init_5 : decode cX4_init 5 = .ok (.iconst (-1), 1) := by decide +kernel
theorem dX4_init_6 : decode cX4_init 6 = .ok (.putfield 9, 3) := by decide +kernel
theorem dX4_init_9 : decode cX4_init 9 = .ok (.aload_n 0, 1) := by decide +kernel
theorem dX4_init_10 : decode cX4_init 10 = .ok (.iconst 0, 1) := by decide +kernel
theorem dX4_init_11 : decode cX4_init 11 = .ok (.putfield 15, 3) := by decide +kernel
theorem dX4_init_14 : decode cX4_init 14 = .ok (.aload_n 0, 1) := by decide +kernel
theorem dX4_init_15 : decode cX4_init 15 = .ok (.iconst 0, 1) := by decide +kernel
theorem dX4_init_16 : decode cX4_init 16 = .ok (.putfield 18, 3) := by decide +kernel
theorem dX4_init_19 : decode cX4_init 19 = .ok (.return_, 1) := by decide +kernel
theorem dX4_beginAnew_0 : decode cX4_beginAnew 0 = .ok (.aload_n 0, 1) := by decide +kernel
theorem dX4_beginAnew_1 : decode cX4_beginAnew 1 = .ok (.iload_n 1, 1) := by decide +kernel
theorem dX4_beginAnew_2 : decode cX4_beginAnew 2 = .ok (.putfield 9, 3) := by decide +kernel
theorem dX4_beginAnew_5 : decode cX4_beginAnew 5 = .ok (.aload_n 0, 1) := by decide +kernel
theorem dX4_beginAnew_6 : decode cX4_beginAnew 6 = .ok (.iconst 0, 1) := by decide +kernel
theorem dX4_beginAnew_7 : decode cX4_beginAnew 7 = .ok (.putfield 15, 3) := by decide +kernel
theorem dX4_beginAnew_10 : decode cX4_beginAnew 10 = .ok (.aload_n 0, 1) := by decide +kernel
theorem dX4_beginAnew_11 : decode cX4_beginAnew 11 = .ok (.iconst 0, 1) := by decide +kernel
theorem dX4_beginAnew_12 : decode cX4_beginAnew 12 = .ok (.putfield 18, 3) := by decide +kernel
theorem dX4_beginAnew_15 : decode cX4_beginAnew 15 = .ok (.return_, 1) := by decide +kernel

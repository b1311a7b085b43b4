set_option maxRecDepth 20000 in
theorem ggX6_init_X3_init : GoodIn wsX6_init wsX3_init := goodIn_r _ [25, 26, 2, 3, 4, 27, 28, 29, 30, 31, 32, 73, 74, 75, 76, 77, 78] (by decide +kernel) (by decide +kernel)
set_option maxRecDepth 20000 in
theorem gX6_init_X3_init_n30 : GoodIn wsX6_init (wsX3_init) := ggX6_init_X3_init
set_option maxRecDepth 20000 in
theorem ggX6_init_X1_init : GoodIn wsX6_init wsX1_init := goodIn_r _ [34, 35, 2, 3, 4, 36, 37, 38, 39, 40, 41, 42, 79, 80, 81, 82, 83, 84, 85] (by decide +kernel) (by decide +kernel)
set_option maxRecDepth 20000 in
theorem gX6_init_X1_init_n37 : GoodIn wsX6_init (wsX1_init) := ggX6_init_X1_init
set_option maxRecDepth 20000 in
theorem ggX6_init_X0_init : GoodIn wsX6_init wsX0_init := goodIn_r _ [45, 46, 2, 3, 47, 48, 49, 50, 51, 52, 53, 54, 55, 4, 56, 57, 58, 59, 86, 87, 88, 92, 93, 94, 95] (by decide +kernel) (by decide +kernel)
set_option maxRecDepth 20000 in
theorem gX6_init_X0_init : GoodIn wsX6_init (wsX0_init) := ggX6_init_X0_init
set_option maxRecDepth 20000 in
theorem ggX6_init_X4_init : GoodIn wsX6_init wsX4_init := goodIn_r _ [61, 62, 2, 3, 63, 64, 65, 89, 90, 91] (by decide +kernel) (by decide +kernel)
set_option maxRecDepth 20000 in
theorem gX6_init_X4_init_n47 : GoodIn wsX6_init (wsX4_init) := ggX6_init_X4_init
theorem dX6_init_0 : decode cX6_init 0 = .ok (.aload_n 0, 1) := by decide +kernel
theorem dX6_init_1 : decode cX6_init 1 = .ok (.invokespecial 1, 3) := by decide +kernel
theorem dX6_init_4 : decode cX6_init 4 = .ok (.aload_n 0, 1) := by decide +kernel
theorem dX6_init_5 : decode cX6_init 5 = .ok (.bipush 8, 2) := by decide +kernel
theorem dX6_init_7 : decode cX6_init 7 = .ok (.newarray .int, 2) := by decide +kernel
theorem dX6_init_9 : decode cX6_init 9 = .ok (.putfield 9, 3) := by decide +kernel
theorem dX6_init_12 : decode cX6_init 12 = .ok (.aload_n 0, 1) := by decide +kernel
theorem dX6_init_13 : decode cX6_init 13 = .ok (.iconst 4, 1) := by decide +kernel
theorem dX6_init_14 : decode cX6_init 14 = .ok (.anewarray 13, 3) := by decide +kernel
theorem dX6_init_17 : decode cX6_init 17 = .ok (.putfield 15, 3) := by decide +kernel
theorem dX6_init_20 : decode cX6_init 20 = .ok (.aload_n 0, 1) := by decide +kernel
theorem dX6_init_21 : decode cX6_init 21 = .ok (.bipush 6, 2) := by decide +kernel
theorem dX6_init_23 : decode cX6_init 23 = .ok (.anewarray 19, 3) := by decide +kernel
theorem dX6_init_26 : decode cX6_init 26 = .ok (.putfield 21, 3) := by decide +kernel
theorem dX6_init_29 : decode cX6_init 29 = .ok (.aload_n 0, 1) := by decide +kernel
theorem dX6_init_30 : decode cX6_init 30 = .ok (.iconst 4, 1) := by decide +kernel
theorem dX6_init_31 : decode cX6_init 31 = .ok (.newarray .int, 2) := by decide +kernel
theorem dX6_init_33 : decode cX6_init 33 = .ok (.putfield 25, 3) := by decide +kernel
theorem dX6_init_36 : decode cX6_init 36 = .ok (.aload_n 0, 1) := by decide +kernel
theorem dX6_init_37 : decode cX6_init 37 = .ok (.new 28, 3) := by decide +kernel
theorem dX6_init_40 : decode cX6_init 40 = .ok (.dup, 1) := by decide +kernel
theorem dX6_init_41 : decode cX6_init 41 = .ok (.invokespecial 30, 3) := by decide +kernel
theorem dX6_init_44 : decode cX6_init 44 = .ok (.putfield 31, 3) := by decide +kernel
theorem dX6_init_47 : decode cX6_init 47 = .ok (.aload_n 0, 1) := by decide +kernel
theorem dX6_init_48 : decode cX6_init 48 = .ok (.new 35, 3) := by decide +kernel
theorem dX6_init_51 : decode cX6_init 51 = .ok (.dup, 1) := by decide +kernel
theorem dX6_init_52 : decode cX6_init 52 = .ok (.invokespecial 37, 3) := by decide +kernel
theorem dX6_init_55 : decode cX6_init 55 = .ok (.putfield 38, 3) := by decide +kernel
theorem dX6_init_58 : decode cX6_init 58 = .ok (.aload_n 0, 1) := by decide +kernel
theorem dX6_init_59 : decode cX6_init 59 = .ok (.iconst 0, 1) := by decide +kernel
theorem dX6_init_60 : decode cX6_init 60 = .ok (.putfield 42, 3) := by decide +kernel
theorem dX6_init_63 : decode cX6_init 63 = .ok (.iconst 4, 1) := by decide +kernel
theorem dX6_init_64 : decode cX6_init 64 = .ok (.istore_n 1, 1) := by decide +kernel
theorem dX6_init_65 : decode cX6_init 65 = .ok (.iload_n 1, 1) := by decide +kernel
theorem dX6_init_66 : decode cX6_init 66 = .ok (.bipush 8, 2) := by decide +kernel
theorem dX6_init_68 : decode cX6_init 68 = .ok (.if_icmp .ge 16, 3) := by decide +kernel
theorem dX6_init_71 : decode cX6_init 71 = .ok (.aload_n 0, 1) := by decide +kernel
theorem dX6_init_72 : decode cX6_init 72 = .ok (.getfield 9, 3) := by decide +kernel
theorem dX6_init_75 : decode cX6_init 75 = .ok (.iload_n 1, 1) := by decide +kernel
theorem dX6_init_76 : decode cX6_init 76 = .ok (.iconst (-1), 1) := by decide +kernel
theorem dX6_init_77 : decode cX6_init 77 = .ok (.iastore, 1) := by decide +kernel
theorem dX6_init_78 : decode cX6_init 78 = .ok (.iinc 1 1, 3) := by decide +kernel
theorem dX6_init_81 : decode cX6_init 81 = .ok (.goto (-16), 3) := by decide +kernel
theorem dX6_init_84 : decode cX6_init 84 = .ok (.iconst 0, 1) := by decide +kernel
theorem dX6_init_85 : decode cX6_init 85 = .ok (.istore_n 1, 1) := by decide +kernel
theorem dX6_init_86 : decode cX6_init 86 = .ok (.iload_n 1, 1) := by decide +kernel
theorem dX6_init_87 : decode cX6_init 87 = .ok (.iconst 4, 1) := by decide +kernel
theorem dX6_init_88 : decode cX6_init 88 = .ok (.if_icmp .ge 22, 3) := by decide +kernel
theorem dX6_init_91 : decode cX6_init 91 = .ok (.aload_n 0, 1) := by decide +kernel
theorem dX6_init_92 : decode cX6_init 92 = .ok (.getfield 15, 3) := by decide +kernel
theorem dX6_init_95 : decode cX6_init 95 = .ok (.iload_n 1, 1) := by decide +kernel
theorem dX6_init_96 : decode cX6_init 96 = .ok (.new 13, 3) := by decide +kernel
theorem dX6_init_99 : decode cX6_init 99 = .ok (.dup, 1) := by decide +kernel
theorem dX6_init_100 : decode cX6_init 100 = .ok (.invokespecial 46, 3) := by decide +kernel
theorem dX6_init_103 : decode cX6_init 103 = .ok (.aastore, 1) := by decide +kernel
theorem dX6_init_104 : decode cX6_init 104 = .ok (.iinc 1 1, 3) := by decide +kernel
theorem dX6_init_107 : decode cX6_init 107 = .ok (.goto (-21), 3) := by decide +kernel
theorem dX6_init_110 : decode cX6_init 110 = .ok (.iconst 0, 1) := by decide +kernel
theorem dX6_init_111 : decode cX6_init 111 = .ok (.istore_n 1, 1) := by decide +kernel
theorem dX6_init_112 : decode cX6_init 112 = .ok (.iload_n 1, 1) := by decide +kernel
theorem dX6_init_113 : decode cX6_init 113 = .ok (.bipush 6, 2) := by decide +kernel
theorem dX6_init_115 : decode cX6_init 115 = .ok (.if_icmp .ge 22, 3) := by decide +kernel
theorem dX6_init_118 : decode cX6_init 118 = .ok (.aload_n 0, 1) := by decide +kernel
theorem dX6_init_119 : decode cX6_init 119 = .ok (.getfield 21, 3) := by decide +kernel
theorem dX6_init_122 : decode cX6_init 122 = .ok (.iload_n 1, 1) := by decide +kernel
theorem dX6_init_123 : decode cX6_init 123 = .ok (.new 19, 3) := by decide +kernel
theorem dX6_init_126 : decode cX6_init 126 = .ok (.dup, 1) := by decide +kernel
theorem dX6_init_127 : decode cX6_init 127 = .ok (.invokespecial 47, 3) := by decide +kernel
theorem dX6_init_130 : decode cX6_init 130 = .ok (.aastore, 1) := by decide +kernel
theorem dX6_init_131 : decode cX6_init 131 = .ok (.iinc 1 1, 3) := by decide +kernel
theorem dX6_init_134 : decode cX6_init 134 = .ok (.goto (-22), 3) := by decide +kernel
theorem dX6_init_137 : decode cX6_init 137 = .ok (.return_, 1) := by decide +kernel
set_option maxRecDepth 20000 in
theorem ggX6_vial_X6_within : GoodIn wsX6_vial wsX6_within := goodIn_r _ [5] (by decide +kernel) (by decide +kernel)
set_option maxRecDepth 20000 in
theorem gX6_vial_X6_within : GoodIn wsX6_vial (va_wsS RX6 48 yX6_within wsX6_within) := goodIn_app (goodIn_of _ (by decide +kernel)) ggX6_vial_X6_within
set_option maxRecDepth 20000 in
theorem ggX6_vial_X6_orNone : GoodIn wsX6_vial wsX6_orNone := goodIn_r _ [8] (by decide +kernel) (by decide +kernel)
set_option maxRecDepth 20000 in
theorem gX6_vial_X6_orNone : GoodIn wsX6_vial (va_wsS RX6 52 yX6_orNone wsX6_orNone) := goodIn_app (goodIn_of _ (by decide +kernel)) ggX6_vial_X6_orNone
theorem dX6_vial_0 : decode cX6_vial 0 = .ok (.iload_n 1, 1) := by decide +kernel
theorem dX6_vial_1 : decode cX6_vial 1 = .ok (.iconst 0, 1) := by decide +kernel
theorem dX6_vial_2 : decode cX6_vial 2 = .ok (.bipush 7, 2) := by decide +kernel
theorem dX6_vial_4 : decode cX6_vial 4 = .ok (.invokestatic 48, 3) := by decide +kernel
theorem dX6_vial_7 : decode cX6_vial 7 = .ok (.ifCond .eq 14, 3) := by decide +kernel
theorem dX6_vial_10 : decode cX6_vial 10 = .ok (.iload_n 2, 1) := by decide +kernel
theorem dX6_vial_11 : decode cX6_vial 11 = .ok (.iconst (-1), 1) := by decide +kernel
theorem dX6_vial_12 : decode cX6_vial 12 = .ok (.sipush 1000, 3) := by decide +kernel
theorem dX6_vial_15 : decode cX6_vial 15 = .ok (.invokestatic 48, 3) := by decide +kernel
theorem dX6_vial_18 : decode cX6_vial 18 = .ok (.ifCond .ne 5, 3) := by decide +kernel
theorem dX6_vial_21 : decode cX6_vial 21 = .ok (.iconst (-1), 1) := by decide +kernel
theorem dX6_vial_22 : decode cX6_vial 22 = .ok (.ireturn, 1) := by decide +kernel
theorem dX6_vial_23 : decode cX6_vial 23 = .ok (.aload_n 0, 1) := by decide +kernel
theorem dX6_vial_24 : decode cX6_vial 24 = .ok (.getfield 9, 3) := by decide +kernel
theorem dX6_vial_27 : decode cX6_vial 27 = .ok (.iload_n 1, 1) := by decide +kernel
theorem dX6_vial_28 : decode cX6_vial 28 = .ok (.iaload, 1) := by decide +kernel
theorem dX6_vial_29 : decode cX6_vial 29 = .ok (.invokestatic 52, 3) := by decide +kernel
theorem dX6_vial_32 : decode cX6_vial 32 = .ok (.istore_n 3, 1) := by decide +kernel
theorem dX6_vial_33 : decode cX6_vial 33 = .ok (.aload_n 0, 1) := by decide +kernel
theorem dX6_vial_34 : decode cX6_vial 34 = .ok (.getfield 9, 3) := by decide +kernel
theorem dX6_vial_37 : decode cX6_vial 37 = .ok (.iload_n 1, 1) := by decide +kernel
theorem dX6_vial_38 : decode cX6_vial 38 = .ok (.iload_n 2, 1) := by decide +kernel
theorem dX6_vial_39 : decode cX6_vial 39 = .ok (.iastore, 1) := by decide +kernel
theorem dX6_vial_40 : decode cX6_vial 40 = .ok (.iload_n 3, 1) := by decide +kernel
theorem dX6_vial_41 : decode cX6_vial 41 = .ok (.ireturn, 1) := by decide +kernel
set_option maxRecDepth 20000 in
theorem ggX6_batch_X6_within : GoodIn wsX6_batch wsX6_within := goodIn_r _ [6] (by decide +kernel) (by decide +kernel)
set_option maxRecDepth 20000 in
theorem gX6_batch_X6_within : GoodIn wsX6_batch (va_wsS RX6 48 yX6_within wsX6_within) := goodIn_app (goodIn_of _ (by decide +kernel)) ggX6_batch_X6_within
set_option maxRecDepth 20000 in
theorem ggX6_batch_X0_beginAnew : GoodIn wsX6_batch wsX0_beginAnew := goodIn_r _ [11, 12, 13, 21, 22, 23] (by decide +kernel) (by decide +kernel)
set_option maxRecDepth 20000 in
theorem gX6_batch_X0_beginAnew : GoodIn wsX6_batch (wsV RX6 59 RX0 yX0_beginAnew wsX0_beginAnew) := goodIn_app (goodIn_of _ (by decide +kernel)) ggX6_batch_X0_beginAnew
theorem dX6_batch_0 : decode cX6_batch 0 = .ok (.iload_n 1, 1) := by decide +kernel
theorem dX6_batch_1 : decode cX6_batch 1 = .ok (.iconst 0, 1) := by decide +kernel
theorem dX6_batch_2 : decode cX6_batch 2 = .ok (.iconst 3, 1) := by decide +kernel
theorem dX6_batch_3 : decode cX6_batch 3 = .ok (.invokestatic 48, 3) := by decide +kernel
theorem dX6_batch_6 : decode cX6_batch 6 = .ok (.ifCond .eq 12, 3) := by decide +kernel
theorem dX6_batch_9 : decode cX6_batch 9 = .ok (.iload_n 2, 1) := by decide +kernel
theorem dX6_batch_10 : decode cX6_batch 10 = .ok (.iconst 0, 1) := by decide +kernel
theorem dX6_batch_11 : decode cX6_batch 11 = .ok (.iconst 2, 1) := by decide +kernel
theorem dX6_batch_12 : decode cX6_batch 12 = .ok (.invokestatic 48, 3) := by decide +kernel
theorem dX6_batch_15 : decode cX6_batch 15 = .ok (.ifCond .ne 5, 3) := by decide +kernel
theorem dX6_batch_18 : decode cX6_batch 18 = .ok (.iconst (-1), 1) := by decide +kernel
theorem dX6_batch_19 : decode cX6_batch 19 = .ok (.ireturn, 1) := by decide +kernel
theorem dX6_batch_20 : decode cX6_batch 20 = .ok (.aload_n 0, 1) := by decide +kernel
theorem dX6_batch_21 : decode cX6_batch 21 = .ok (.getfield 15, 3) := by decide +kernel
theorem dX6_batch_24 : decode cX6_batch 24 = .ok (.iload_n 1, 1) := by decide +kernel
theorem dX6_batch_25 : decode cX6_batch 25 = .ok (.aaload, 1) := by decide +kernel
theorem dX6_batch_26 : decode cX6_batch 26 = .ok (.getfield 56, 3) := by decide +kernel
theorem dX6_batch_29 : decode cX6_batch 29 = .ok (.istore_n 3, 1) := by decide +kernel
theorem dX6_batch_30 : decode cX6_batch 30 = .ok (.aload_n 0, 1) := by decide +kernel
theorem dX6_batch_31 : decode cX6_batch 31 = .ok (.getfield 15, 3) := by decide +kernel
theorem dX6_batch_34 : decode cX6_batch 34 = .ok (.iload_n 1, 1) := by decide +kernel
theorem dX6_batch_35 : decode cX6_batch 35 = .ok (.aaload, 1) := by decide +kernel
theorem dX6_batch_36 : decode cX6_batch 36 = .ok (.iload_n 2, 1) := by decide +kernel
theorem dX6_batch_37 : decode cX6_batch 37 = .ok (.invokevirtual 59, 3) := by decide +kernel
theorem dX6_batch_40 : decode cX6_batch 40 = .ok (.iload_n 3, 1) := by decide +kernel
theorem dX6_batch_41 : decode cX6_batch 41 = .ok (.ireturn, 1) := by decide +kernel
set_option maxRecDepth 20000 in
theorem ggX6_round_X6_within : GoodIn wsX6_round wsX6_within := goodIn_r _ [5] (by decide +kernel) (by decide +kernel)
set_option maxRecDepth 20000 in
theorem gX6_round_X6_within : GoodIn wsX6_round (va_wsS RX6 48 yX6_within wsX6_within) := goodIn_app (goodIn_of _ (by decide +kernel)) ggX6_round_X6_within
set_option maxRecDepth 20000 in
theorem ggX6_round_X0_addRound : GoodIn wsX6_round wsX0_addRound := goodIn_r _ [10, 11, 12, 13, 14, 15, 16, 17, 18, 19, 27, 28, 29, 30, 31, 32, 33] (by decide +kernel) (by decide +kernel)
set_option maxRecDepth 20000 in
theorem gX6_round_X0_addRound : GoodIn wsX6_round (wsV RX6 63 RX0 yX0_addRound wsX0_addRound) := goodIn_app (goodIn_of _ (by decide +kernel)) ggX6_round_X0_addRound
theorem dX6_round_0 : decode cX6_round 0 = .ok (.iload_n 1, 1) := by decide +kernel
theorem dX6_round_1 : decode cX6_round 1 = .ok (.iconst 0, 1) := by decide +kernel
theorem dX6_round_2 : decode cX6_round 2 = .ok (.iconst 3, 1) := by decide +kernel
theorem dX6_round_3 : decode cX6_round 3 = .ok (.invokestatic 48, 3) := by decide +kernel
theorem dX6_round_6 : decode cX6_round 6 = .ok (.ifCond .eq 13, 3) := by decide +kernel
theorem dX6_round_9 : decode cX6_round 9 = .ok (.iload_n 2, 1) := by decide +kernel
theorem dX6_round_10 : decode cX6_round 10 = .ok (.iconst 0, 1) := by decide +kernel
theorem dX6_round_11 : decode cX6_round 11 = .ok (.bipush 9, 2) := by decide +kernel
theorem dX6_round_13 : decode cX6_round 13 = .ok (.invokestatic 48, 3) := by decide +kernel
theorem dX6_round_16 : decode cX6_round 16 = .ok (.ifCond .ne 5, 3) := by decide +kernel
theorem dX6_round_19 : decode cX6_round 19 = .ok (.iconst (-1), 1) := by decide +kernel
theorem dX6_round_20 : decode cX6_round 20 = .ok (.ireturn, 1) := by decide +kernel
theorem dX6_round_21 : decode cX6_round 21 = .ok (.aload_n 0, 1) := by decide +kernel
theorem dX6_round_22 : decode cX6_round 22 = .ok (.getfield 15, 3) := by decide +kernel
theorem dX6_round_25 : decode cX6_round 25 = .ok (.iload_n 1, 1) := by decide +kernel
theorem dX6_round_26 : decode cX6_round 26 = .ok (.aaload, 1) := by decide +kernel
theorem dX6_round_27 : decode cX6_round 27 = .ok (.iload_n 2, 1) := by decide +kernel
theorem dX6_round_28 : decode cX6_round 28 = .ok (.invokevirtual 63, 3) := by decide +kernel
theorem dX6_round_31 : decode cX6_round 31 = .ok (.ireturn, 1) := by decide +kernel
set_option maxRecDepth 20000 in
theorem ggX6_step_X6_within : GoodIn wsX6_step wsX6_within := goodIn_r _ [8] (by decide +kernel) (by decide +kernel)
set_option maxRecDepth 20000 in
theorem gX6_step_X6_within : GoodIn wsX6_step (va_wsS RX6 48 yX6_within wsX6_within) := goodIn_app (goodIn_of _ (by decide +kernel)) ggX6_step_X6_within
set_option maxRecDepth 20000 in
theorem ggX6_step_X2_addStep : GoodIn wsX6_step wsX2_addStep := goodIn_r _ [13, 14, 15, 16, 27, 28, 29, 30] (by decide +kernel) (by decide +kernel)
set_option maxRecDepth 20000 in
theorem gX6_step_X2_addStep : GoodIn wsX6_step (wsV RX6 73 RX2 yX2_addStep wsX2_addStep) := goodIn_app (goodIn_of _ (by decide +kernel)) ggX6_step_X2_addStep
theorem dX6_step_0 : decode cX6_step 0 = .ok (.iload_n 1, 1) := by decide +kernel
theorem dX6_step_1 : decode cX6_step 1 = .ok (.iconst 0, 1) := by decide +kernel
theorem dX6_step_2 : decode cX6_step 2 = .ok (.iconst 3, 1) := by decide +kernel
theorem dX6_step_3 : decode cX6_step 3 = .ok (.invokestatic 48, 3) := by decide +kernel
theorem dX6_step_6 : decode cX6_step 6 = .ok (.ifCond .eq 26, 3) := by decide +kernel
theorem dX6_step_9 : decode cX6_step 9 = .ok (.iload_n 2, 1) := by decide +kernel
theorem dX6_step_10 : decode cX6_step 10 = .ok (.iconst 0, 1) := by decide +kernel
theorem dX6_step_11 : decode cX6_step 11 = .ok (.bipush 17, 2) := by decide +kernel
theorem dX6_step_13 : decode cX6_step 13 = .ok (.invokestatic 48, 3) := by decide +kernel
theorem dX6_step_16 : decode cX6_step 16 = .ok (.ifCond .eq 16, 3) := by decide +kernel
theorem dX6_step_19 : decode cX6_step 19 = .ok (.iload_n 3, 1) := by decide +kernel
theorem dX6_step_20 : decode cX6_step 20 = .ok (.iconst 0, 1) := by decide +kernel
theorem dX6_step_21 : decode cX6_step 21 = .ok (.getstatic 66, 3) := by decide +kernel
theorem dX6_step_24 : decode cX6_step 24 = .ok (.iload_n 2, 1) := by decide +kernel
theorem dX6_step_25 : decode cX6_step 25 = .ok (.iaload, 1) := by decide +kernel
theorem dX6_step_26 : decode cX6_step 26 = .ok (.invokestatic 48, 3) := by decide +kernel
theorem dX6_step_29 : decode cX6_step 29 = .ok (.ifCond .ne 5, 3) := by decide +kernel
theorem dX6_step_32 : decode cX6_step 32 = .ok (.iconst (-1), 1) := by decide +kernel
theorem dX6_step_33 : decode cX6_step 33 = .ok (.ireturn, 1) := by decide +kernel
theorem dX6_step_34 : decode cX6_step 34 = .ok (.aload_n 0, 1) := by decide +kernel
theorem dX6_step_35 : decode cX6_step 35 = .ok (.getfield 15, 3) := by decide +kernel
theorem dX6_step_38 : decode cX6_step 38 = .ok (.iload_n 1, 1) := by decide +kernel
theorem dX6_step_39 : decode cX6_step 39 = .ok (.aaload, 1) := by decide +kernel
theorem dX6_step_40 : decode cX6_step 40 = .ok (.getfield 56, 3) := by decide +kernel
theorem dX6_step_43 : decode cX6_step 43 = .ok (.istore 4, 2) := by decide +kernel
theorem dX6_step_45 : decode cX6_step 45 = .ok (.iload 4, 2) := by decide +kernel
theorem dX6_step_47 : decode cX6_step 47 = .ok (.ifCond .ne 6, 3) := by decide +kernel
theorem dX6_step_50 : decode cX6_step 50 = .ok (.bipush (-3), 2) := by decide +kernel
theorem dX6_step_52 : decode cX6_step 52 = .ok (.ireturn, 1) := by decide +kernel
theorem dX6_step_53 : decode cX6_step 53 = .ok (.aload_n 0, 1) := by decide +kernel
theorem dX6_step_54 : decode cX6_step 54 = .ok (.getfield 15, 3) := by decide +kernel
theorem dX6_step_57 : decode cX6_step 57 = .ok (.iload_n 1, 1) := by decide +kernel
theorem dX6_step_58 : decode cX6_step 58 = .ok (.aaload, 1) := by decide +kernel
theorem dX6_step_59 : decode cX6_step 59 = .ok (.getfield 69, 3) := by decide +kernel
theorem dX6_step_62 : decode cX6_step 62 = .ok (.iload 4, 2) := by decide +kernel
theorem dX6_step_64 : decode cX6_step 64 = .ok (.iconst 1, 1) := by decide +kernel
theorem dX6_step_65 : decode cX6_step 65 = .ok (.isub, 1) := by decide +kernel
theorem dX6_step_66 : decode cX6_step 66 = .ok (.aaload, 1) := by decide +kernel
theorem dX6_step_67 : decode cX6_step 67 = .ok (.iload_n 2, 1) := by decide +kernel
theorem dX6_step_68 : decode cX6_step 68 = .ok (.iload_n 3, 1) := by decide +kernel
theorem dX6_step_69 : decode cX6_step 69 = .ok (.invokevirtual 73, 3) := by decide +kernel
theorem dX6_step_72 : decode cX6_step 72 = .ok (.ireturn, 1) := by decide +kernel
set_option maxRecDepth 20000 in
theorem ggX6_tool_X6_within : GoodIn wsX6_tool wsX6_within := goodIn_r _ [6] (by decide +kernel) (by decide +kernel)
set_option maxRecDepth 20000 in
theorem gX6_tool_X6_within : GoodIn wsX6_tool (va_wsS RX6 48 yX6_within wsX6_within) := goodIn_app (goodIn_of _ (by decide +kernel)) ggX6_tool_X6_within
set_option maxRecDepth 20000 in
theorem ggX6_tool_X6_orNone : GoodIn wsX6_tool wsX6_orNone := goodIn_r _ [9] (by decide +kernel) (by decide +kernel)
set_option maxRecDepth 20000 in
theorem gX6_tool_X6_orNone : GoodIn wsX6_tool (va_wsS RX6 52 yX6_orNone wsX6_orNone) := goodIn_app (goodIn_of _ (by decide +kernel)) ggX6_tool_X6_orNone
set_option maxRecDepth 20000 in
theorem ggX6_tool_X4_beginAnew : GoodIn wsX6_tool wsX4_beginAnew := goodIn_r _ [14, 15, 16, 17, 25, 26, 27] (by decide +kernel) (by decide +kernel)
set_option maxRecDepth 20000 in
theorem gX6_tool_X4_beginAnew : GoodIn wsX6_tool (wsV RX6 82 RX4 yX4_beginAnew wsX4_beginAnew) := goodIn_app (goodIn_of _ (by decide +kernel)) ggX6_tool_X4_beginAnew
theorem dX6_tool_0 : decode cX6_tool 0 = .ok (.iload_n 1, 1) := by decide +kernel
theorem dX6_tool_1 : decode cX6_tool 1 = .ok (.iconst 0, 1) := by decide +kernel
theorem dX6_tool_2 : decode cX6_tool 2 = .ok (.iconst 5, 1) := by decide +kernel
theorem dX6_tool_3 : decode cX6_tool 3 = .ok (.invokestatic 48, 3) := by decide +kernel
theorem dX6_tool_6 : decode cX6_tool 6 = .ok (.ifCond .eq 12, 3) := by decide +kernel
theorem dX6_tool_9 : decode cX6_tool 9 = .ok (.iload_n 2, 1) := by decide +kernel
theorem dX6_tool_10 : decode cX6_tool 10 = .ok (.iconst (-1), 1) := by decide +kernel
theorem dX6_tool_11 : decode cX6_tool 11 = .ok (.iconst 1, 1) := by decide +kernel
theorem dX6_tool_12 : decode cX6_tool 12 = .ok (.invokestatic 48, 3) := by decide +kernel
theorem dX6_tool_15 : decode cX6_tool 15 = .ok (.ifCond .ne 5, 3) := by decide +kernel
theorem dX6_tool_18 : decode cX6_tool 18 = .ok (.iconst (-1), 1) := by decide +kernel
theorem dX6_tool_19 : decode cX6_tool 19 = .ok (.ireturn, 1) := by decide +kernel
theorem dX6_tool_20 : decode cX6_tool 20 = .ok (.aload_n 0, 1) := by decide +kernel
theorem dX6_tool_21 : decode cX6_tool 21 = .ok (.getfield 21, 3) := by decide +kernel
theorem dX6_tool_24 : decode cX6_tool 24 = .ok (.iload_n 1, 1) := by decide +kernel
theorem dX6_tool_25 : decode cX6_tool 25 = .ok (.aaload, 1) := by decide +kernel
theorem dX6_tool_26 : decode cX6_tool 26 = .ok (.getfield 79, 3) := by decide +kernel
theorem dX6_tool_29 : decode cX6_tool 29 = .ok (.invokestatic 52, 3) := by decide +kernel
theorem dX6_tool_32 : decode cX6_tool 32 = .ok (.istore_n 3, 1) := by decide +kernel
theorem dX6_tool_33 : decode cX6_tool 33 = .ok (.aload_n 0, 1) := by decide +kernel
theorem dX6_tool_34 : decode cX6_tool 34 = .ok (.getfield 21, 3) := by decide +kernel
theorem dX6_tool_37 : decode cX6_tool 37 = .ok (.iload_n 1, 1) := by decide +kernel
theorem dX6_tool_38 : decode cX6_tool 38 = .ok (.aaload, 1) := by decide +kernel
theorem dX6_tool_39 : decode cX6_tool 39 = .ok (.iload_n 2, 1) := by decide +kernel
theorem dX6_tool_40 : decode cX6_tool 40 = .ok (.invokevirtual 82, 3) := by decide +kernel
theorem dX6_tool_43 : decode cX6_tool 43 = .ok (.iload_n 3, 1) := by decide +kernel
theorem dX6_tool_44 : decode cX6_tool 44 = .ok (.ireturn, 1) := by decide +kernel
set_option maxRecDepth 20000 in
theorem ggX6_lay_X6_within : GoodIn wsX6_lay wsX6_within := goodIn_r _ [5] (by decide +kernel) (by decide +kernel)
set_option maxRecDepth 20000 in
theorem gX6_lay_X6_within : GoodIn wsX6_lay (va_wsS RX6 48 yX6_within wsX6_within) := goodIn_app (goodIn_of _ (by decide +kernel)) ggX6_lay_X6_within
theorem dX6_lay_0 : decode cX6_lay 0 = .ok (.iload_n 1, 1) := by decide +kernel
theorem dX6_lay_1 : decode cX6_lay 1 = .ok (.iconst 0, 1) := by decide +kernel
theorem dX6_lay_2 : decode cX6_lay 2 = .ok (.iconst 3, 1) := by decide +kernel
theorem dX6_lay_3 : decode cX6_lay 3 = .ok (.invokestatic 48, 3) := by decide +kernel
theorem dX6_lay_6 : decode cX6_lay 6 = .ok (.ifCond .eq 13, 3) := by decide +kernel
theorem dX6_lay_9 : decode cX6_lay 9 = .ok (.iload_n 2, 1) := by decide +kernel
theorem dX6_lay_10 : decode cX6_lay 10 = .ok (.iconst 0, 1) := by decide +kernel
theorem dX6_lay_11 : decode cX6_lay 11 = .ok (.bipush 99, 2) := by decide +kernel
theorem dX6_lay_13 : decode cX6_lay 13 = .ok (.invokestatic 48, 3) := by decide +kernel
theorem dX6_lay_16 : decode cX6_lay 16 = .ok (.ifCond .ne 5, 3) := by decide +kernel
theorem dX6_lay_19 : decode cX6_lay 19 = .ok (.iconst (-1), 1) := by decide +kernel
theorem dX6_lay_20 : decode cX6_lay 20 = .ok (.ireturn, 1) := by decide +kernel
theorem dX6_lay_21 : decode cX6_lay 21 = .ok (.aload_n 0, 1) := by decide +kernel
theorem dX6_lay_22 : decode cX6_lay 22 = .ok (.getfield 25, 3) := by decide +kernel
theorem dX6_lay_25 : decode cX6_lay 25 = .ok (.iload_n 1, 1) := by decide +kernel
theorem dX6_lay_26 : decode cX6_lay 26 = .ok (.iaload, 1) := by decide +kernel
theorem dX6_lay_27 : decode cX6_lay 27 = .ok (.istore_n 3, 1) := by decide +kernel
theorem dX6_lay_28 : decode cX6_lay 28 = .ok (.aload_n 0, 1) := by decide +kernel
theorem dX6_lay_29 : decode cX6_lay 29 = .ok (.getfield 25, 3) := by decide +kernel
theorem dX6_lay_32 : decode cX6_lay 32 = .ok (.iload_n 1, 1) := by decide +kernel
theorem dX6_lay_33 : decode cX6_lay 33 = .ok (.iload_n 2, 1) := by decide +kernel
theorem dX6_lay_34 : decode cX6_lay 34 = .ok (.iastore, 1) := by decide +kernel
theorem dX6_lay_35 : decode cX6_lay 35 = .ok (.iload_n 3, 1) := by decide +kernel
theorem dX6_lay_36 : decode cX6_lay 36 = .ok (.ireturn, 1) := by decide +kernel
set_option maxRecDepth 20000 in
theorem ggX6_about_X6_within : GoodIn wsX6_about wsX6_within := goodIn_r _ [8] (by decide +kernel) (by decide +kernel)
set_option maxRecDepth 20000 in
theorem gX6_about_X6_within : GoodIn wsX6_about (va_wsS RX6 48 yX6_within wsX6_within) := goodIn_app (goodIn_of _ (by decide +kernel)) ggX6_about_X6_within
theorem dX6_about_0 : decode cX6_about 0 = .ok (.iload_n 1, 1) := by decide +kernel
theorem dX6_about_1 : decode cX6_about 1 = .ok (.iconst 0, 1) := by decide +kernel
theorem dX6_about_2 : decode cX6_about 2 = .ok (.iconst 5, 1) := by decide +kernel
theorem dX6_about_3 : decode cX6_about 3 = .ok (.invokestatic 48, 3) := by decide +kernel
theorem dX6_about_6 : decode cX6_about 6 = .ok (.ifCond .eq 12, 3) := by decide +kernel
theorem dX6_about_9 : decode cX6_about 9 = .ok (.iload_n 2, 1) := by decide +kernel
theorem dX6_about_10 : decode cX6_about 10 = .ok (.iconst 0, 1) := by decide +kernel
theorem dX6_about_11 : decode cX6_about 11 = .ok (.iconst 2, 1) := by decide +kernel
theorem dX6_about_12 : decode cX6_about 12 = .ok (.invokestatic 48, 3) := by decide +kernel
theorem dX6_about_15 : decode cX6_about 15 = .ok (.ifCond .ne 5, 3) := by decide +kernel
theorem dX6_about_18 : decode cX6_about 18 = .ok (.iconst (-1), 1) := by decide +kernel
theorem dX6_about_19 : decode cX6_about 19 = .ok (.ireturn, 1) := by decide +kernel
theorem dX6_about_20 : decode cX6_about 20 = .ok (.aload_n 0, 1) := by decide +kernel
theorem dX6_about_21 : decode cX6_about 21 = .ok (.getfield 21, 3) := by decide +kernel
theorem dX6_about_24 : decode cX6_about 24 = .ok (.iload_n 1, 1) := by decide +kernel
theorem dX6_about_25 : decode cX6_about 25 = .ok (.aaload, 1) := by decide +kernel
theorem dX6_about_26 : decode cX6_about 26 = .ok (.astore_n 3, 1) := by decide +kernel
theorem dX6_about_27 : decode cX6_about 27 = .ok (.aload_n 3, 1) := by decide +kernel
theorem dX6_about_28 : decode cX6_about 28 = .ok (.getfield 79, 3) := by decide +kernel
theorem dX6_about_31 : decode cX6_about 31 = .ok (.iconst (-1), 1) := by decide +kernel
theorem dX6_about_32 : decode cX6_about 32 = .ok (.if_icmp .ne 6, 3) := by decide +kernel
theorem dX6_about_35 : decode cX6_about 35 = .ok (.bipush (-3), 2) := by decide +kernel
theorem dX6_about_37 : decode cX6_about 37 = .ok (.ireturn, 1) := by decide +kernel
theorem dX6_about_38 : decode cX6_about 38 = .ok (.iload_n 2, 1) := by decide +kernel
theorem dX6_about_39 : decode cX6_about 39 = .ok (.iconst 2, 1) := by decide +kernel
theorem dX6_about_40 : decode cX6_about 40 = .ok (.if_icmp .ne 8, 3) := by decide +kernel
theorem dX6_about_43 : decode cX6_about 43 = .ok (.aload_n 3, 1) := by decide +kernel
theorem dX6_about_44 : decode cX6_about 44 = .ok (.getfield 79, 3) := by decide +kernel
theorem dX6_about_47 : decode cX6_about 47 = .ok (.ireturn, 1) := by decide +kernel
theorem dX6_about_48 : decode cX6_about 48 = .ok (.iload_n 2, 1) := by decide +kernel
theorem dX6_about_49 : decode cX6_about 49 = .ok (.iconst 1, 1) := by decide +kernel
theorem dX6_about_50 : decode cX6_about 50 = .ok (.if_icmp .ne 10, 3) := by decide +kernel
theorem dX6_about_53 : decode cX6_about 53 = .ok (.aload_n 3, 1) := by decide +kernel
theorem dX6_about_54 : decode cX6_about 54 = .ok (.getfield 83, 3) := by decide +kernel
theorem dX6_about_57 : decode cX6_about 57 = .ok (.goto 7, 3) := by decide +kernel
theorem dX6_about_60 : decode cX6_about 60 = .ok (.aload_n 3, 1) := by decide +kernel
theorem dX6_about_61 : decode cX6_about 61 = .ok (.getfield 86, 3) := by decide +kernel
theorem dX6_about_64 : decode cX6_about 64 = .ok (.ireturn, 1) := by decide +kernel
set_option maxRecDepth 20000 in
theorem ggX6_places_X6_within : GoodIn wsX6_places wsX6_within := goodIn_r _ [5] (by decide +kernel) (by decide +kernel)
set_option maxRecDepth 20000 in
theorem gX6_places_X6_within : GoodIn wsX6_places (va_wsS RX6 48 yX6_within wsX6_within) := goodIn_app (goodIn_of _ (by decide +kernel)) ggX6_places_X6_within
set_option maxRecDepth 20000 in
theorem ggX6_places_X3_sizeOf : GoodIn wsX6_places wsX3_sizeOf := goodIn_r _ [10, 11, 12, 13, 14, 22, 23, 24, 25, 26, 27] (by decide +kernel) (by decide +kernel)
set_option maxRecDepth 20000 in
theorem gX6_places_X3_sizeOf : GoodIn wsX6_places (wsV RX6 89 RX3 yX3_sizeOf wsX3_sizeOf) := goodIn_app (goodIn_of _ (by decide +kernel)) ggX6_places_X3_sizeOf
theorem dX6_places_0 : decode cX6_places 0 = .ok (.iload_n 1, 1) := by decide +kernel
theorem dX6_places_1 : decode cX6_places 1 = .ok (.iconst 0, 1) := by decide +kernel
theorem dX6_places_2 : decode cX6_places 2 = .ok (.iconst 3, 1) := by decide +kernel
theorem dX6_places_3 : decode cX6_places 3 = .ok (.invokestatic 48, 3) := by decide +kernel
theorem dX6_places_6 : decode cX6_places 6 = .ok (.ifCond .eq 14, 3) := by decide +kernel
theorem dX6_places_9 : decode cX6_places 9 = .ok (.aload_n 0, 1) := by decide +kernel
theorem dX6_places_10 : decode cX6_places 10 = .ok (.getfield 31, 3) := by decide +kernel
theorem dX6_places_13 : decode cX6_places 13 = .ok (.iload_n 1, 1) := by decide +kernel
theorem dX6_places_14 : decode cX6_places 14 = .ok (.invokevirtual 89, 3) := by decide +kernel
theorem dX6_places_17 : decode cX6_places 17 = .ok (.goto 4, 3) := by decide +kernel
theorem dX6_places_20 : decode cX6_places 20 = .ok (.iconst (-1), 1) := by decide +kernel
theorem dX6_places_21 : decode cX6_places 21 = .ok (.ireturn, 1) := by decide +kernel
set_option maxRecDepth 20000 in
theorem ggX6_box_X6_within : GoodIn wsX6_box wsX6_within := goodIn_r _ [7] (by decide +kernel) (by decide +kernel)
set_option maxRecDepth 20000 in
theorem gX6_box_X6_within : GoodIn wsX6_box (va_wsS RX6 48 yX6_within wsX6_within) := goodIn_app (goodIn_of _ (by decide +kernel)) ggX6_box_X6_within
theorem dX6_box_0 : decode cX6_box 0 = .ok (.iload_n 1, 1) := by decide +kernel
theorem dX6_box_1 : decode cX6_box 1 = .ok (.iconst 0, 1) := by decide +kernel
theorem dX6_box_2 : decode cX6_box 2 = .ok (.aload_n 0, 1) := by decide +kernel
theorem dX6_box_3 : decode cX6_box 3 = .ok (.getfield 31, 3) := by decide +kernel
theorem dX6_box_6 : decode cX6_box 6 = .ok (.getfield 92, 3) := by decide +kernel
theorem dX6_box_9 : decode cX6_box 9 = .ok (.iconst 1, 1) := by decide +kernel
theorem dX6_box_10 : decode cX6_box 10 = .ok (.isub, 1) := by decide +kernel
theorem dX6_box_11 : decode cX6_box 11 = .ok (.invokestatic 48, 3) := by decide +kernel
theorem dX6_box_14 : decode cX6_box 14 = .ok (.ifCond .eq 15, 3) := by decide +kernel
theorem dX6_box_17 : decode cX6_box 17 = .ok (.aload_n 0, 1) := by decide +kernel
theorem dX6_box_18 : decode cX6_box 18 = .ok (.getfield 31, 3) := by decide +kernel
theorem dX6_box_21 : decode cX6_box 21 = .ok (.getfield 95, 3) := by decide +kernel
theorem dX6_box_24 : decode cX6_box 24 = .ok (.iload_n 1, 1) := by decide +kernel
theorem dX6_box_25 : decode cX6_box 25 = .ok (.iaload, 1) := by decide +kernel
theorem dX6_box_26 : decode cX6_box 26 = .ok (.goto 5, 3) := by decide +kernel
theorem dX6_box_29 : decode cX6_box 29 = .ok (.bipush (-4), 2) := by decide +kernel
theorem dX6_box_31 : decode cX6_box 31 = .ok (.ireturn, 1) := by decide +kernel
set_option maxRecDepth 20000 in
theorem ggX6_run_X6_within : GoodIn wsX6_run wsX6_within := goodIn_r _ [10] (by decide +kernel) (by decide +kernel)
set_option maxRecDepth 20000 in
theorem gX6_run_X6_within : GoodIn wsX6_run (va_wsS RX6 48 yX6_within wsX6_within) := goodIn_app (goodIn_of _ (by decide +kernel)) ggX6_run_X6_within
set_option maxRecDepth 20000 in
theorem ggX6_run_X1_beginAnew : GoodIn wsX6_run wsX1_beginAnew := goodIn_r _ [15, 16, 17, 18, 19, 151, 152, 153, 154, 155, 156, 157] (by decide +kernel) (by decide +kernel)
set_option maxRecDepth 20000 in
theorem gX6_run_X1_beginAnew : GoodIn wsX6_run (wsV RX6 98 RX1 yX1_beginAnew wsX1_beginAnew) := goodIn_app (goodIn_of _ (by decide +kernel)) ggX6_run_X1_beginAnew
set_option maxRecDepth 20000 in
theorem ggX6_run_X6_doBatch : GoodIn wsX6_run wsX6_doBatch := goodIn_r _ [23, 24, 1, 25, 26, 27, 3, 28, 29, 30, 31, 32, 14, 33, 16, 17, 34, 35, 36, 37, 9, 38, 39, 40, 41, 42, 43, 44, 45, 19, 46, 47, 48, 49, 50, 51, 52, 6, 53, 54, 55, 56, 57, 58, 59, 5, 4, 60, 61, 62, 63, 64, 65, 66, 67, 68, 69, 70, 71, 72, 73, 74, 75, 76, 77, 78, 79, 80, 81, 82, 83, 84, 85, 86, 87, 88, 89, 90, 91, 92, 93, 94, 95, 96, 97, 98, 99, 100, 101, 102, 103, 104, 105, 106, 107, 108, 109, 110, 111, 112, 113, 114, 115, 116, 117, 118, 119, 120, 121, 122, 123, 124, 125, 126, 127, 128, 129, 130, 131, 132, 133, 134, 135, 136, 137, 138, 18, 139, 140, 141, 142, 143, 144, 145, 146, 147, 148, 149, 150, 158, 159, 160, 151, 152, 153, 154, 155, 156, 157, 161, 162, 163, 164, 165, 166, 167, 168, 169, 170, 171, 172, 173] (by decide +kernel) (by decide +kernel)
set_option maxRecDepth 20000 in
theorem gX6_run_X6_doBatch : GoodIn wsX6_run (wsV RX6 100 RX6 yX6_doBatch wsX6_doBatch) := goodIn_app (goodIn_of _ (by decide +kernel)) ggX6_run_X6_doBatch
set_option maxRecDepth 20000 in
theorem ggX6_run_X1_failInStead : GoodIn wsX6_run wsX1_failInStead := goodIn_r _ [143, 19, 45, 151, 152, 153, 154, 155, 156, 157] (by decide +kernel) (by decide +kernel)
set_option maxRecDepth 20000 in
theorem gX6_run_X1_failInStead : GoodIn wsX6_run (wsV RX6 110 RX1 yX1_failInStead wsX1_failInStead) := goodIn_app (goodIn_of _ (by decide +kernel)) ggX6_run_X1_failInStead
theorem dX6_run_0 : decode cX6_run 0 = .ok (.iload_n 1, 1) := by decide +kernel
theorem dX6_run_1 : decode cX6_run 1 = .ok (.iconst 0, 1) := by decide +kernel
theorem dX6_run_2 : decode cX6_run 2 = .ok (.iconst 3, 1) := by decide +kernel
theorem dX6_run_3 : decode cX6_run 3 = .ok (.invokestatic 48, 3) := by decide +kernel
theorem dX6_run_6 : decode cX6_run 6 = .ok (.ifCond .eq 12, 3) := by decide +kernel
theorem dX6_run_9 : decode cX6_run 9 = .ok (.iload_n 2, 1) := by decide +kernel
theorem dX6_run_10 : decode cX6_run 10 = .ok (.iload_n 1, 1) := by decide +kernel
theorem dX6_run_11 : decode cX6_run 11 = .ok (.iconst 3, 1) := by decide +kernel
theorem dX6_run_12 : decode cX6_run 12 = .ok (.invokestatic 48, 3) := by decide +kernel
theorem dX6_run_15 : decode cX6_run 15 = .ok (.ifCond .ne 5, 3) := by decide +kernel
theorem dX6_run_18 : decode cX6_run 18 = .ok (.iconst (-1), 1) := by decide +kernel
theorem dX6_run_19 : decode cX6_run 19 = .ok (.ireturn, 1) := by decide +kernel
theorem dX6_run_20 : decode cX6_run 20 = .ok (.aload_n 0, 1) := by decide +kernel
theorem dX6_run_21 : decode cX6_run 21 = .ok (.getfield 38, 3) := by decide +kernel
theorem dX6_run_24 : decode cX6_run 24 = .ok (.invokevirtual 98, 3) := by decide +kernel
theorem dX6_run_27 : decode cX6_run 27 = .ok (.iload_n 1, 1) := by decide +kernel
theorem dX6_run_28 : decode cX6_run 28 = .ok (.istore 4, 2) := by decide +kernel
theorem dX6_run_30 : decode cX6_run 30 = .ok (.iload 4, 2) := by decide +kernel
theorem dX6_run_32 : decode cX6_run 32 = .ok (.iload_n 2, 1) := by decide +kernel
theorem dX6_run_33 : decode cX6_run 33 = .ok (.if_icmp .gt 76, 3) := by decide +kernel
theorem dX6_run_36 : decode cX6_run 36 = .ok (.aload_n 0, 1) := by decide +kernel
theorem dX6_run_37 : decode cX6_run 37 = .ok (.aload_n 0, 1) := by decide +kernel
theorem dX6_run_38 : decode cX6_run 38 = .ok (.getfield 15, 3) := by decide +kernel
theorem dX6_run_41 : decode cX6_run 41 = .ok (.iload 4, 2) := by decide +kernel
theorem dX6_run_43 : decode cX6_run 43 = .ok (.aaload, 1) := by decide +kernel
theorem dX6_run_44 : decode cX6_run 44 = .ok (.invokevirtual 100, 3) := by decide +kernel
theorem dX6_run_47 : decode cX6_run 47 = .ok (.astore 5, 2) := by decide +kernel
theorem dX6_run_49 : decode cX6_run 49 = .ok (.aload 5, 2) := by decide +kernel
theorem dX6_run_51 : decode cX6_run 51 = .ok (.getstatic 104, 3) := by decide +kernel
theorem dX6_run_54 : decode cX6_run 54 = .ok (.if_acmp .ne 22, 3) := by decide +kernel
theorem dX6_run_57 : decode cX6_run 57 = .ok (.iload_n 3, 1) := by decide +kernel
theorem dX6_run_58 : decode cX6_run 58 = .ok (.ifCond .eq 15, 3) := by decide +kernel
theorem dX6_run_61 : decode cX6_run 61 = .ok (.aload_n 0, 1) := by decide +kernel
theorem dX6_run_62 : decode cX6_run 62 = .ok (.getfield 38, 3) := by decide +kernel
theorem dX6_run_65 : decode cX6_run 65 = .ok (.bipush 30, 2) := by decide +kernel
theorem dX6_run_67 : decode cX6_run 67 = .ok (.iload 4, 2) := by decide +kernel
theorem dX6_run_69 : decode cX6_run 69 = .ok (.iadd, 1) := by decide +kernel
theorem dX6_run_70 : decode cX6_run 70 = .ok (.invokevirtual 110, 3) := by decide +kernel
theorem dX6_run_73 : decode cX6_run 73 = .ok (.bipush (-10), 2) := by decide +kernel
theorem dX6_run_75 : decode cX6_run 75 = .ok (.ireturn, 1) := by decide +kernel
theorem dX6_run_76 : decode cX6_run 76 = .ok (.aload 5, 2) := by decide +kernel
theorem dX6_run_78 : decode cX6_run 78 = .ok (.getstatic 113, 3) := by decide +kernel
theorem dX6_run_81 : decode cX6_run 81 = .ok (.if_acmp .ne 11, 3) := by decide +kernel
theorem dX6_run_84 : decode cX6_run 84 = .ok (.bipush 100, 2) := by decide +kernel
theorem dX6_run_86 : decode cX6_run 86 = .ok (.aload_n 0, 1) := by decide +kernel
theorem dX6_run_87 : decode cX6_run 87 = .ok (.getfield 42, 3) := by decide +kernel
theorem dX6_run_90 : decode cX6_run 90 = .ok (.iadd, 1) := by decide +kernel
theorem dX6_run_91 : decode cX6_run 91 = .ok (.ireturn, 1) := by decide +kernel
theorem dX6_run_92 : decode cX6_run 92 = .ok (.aload 5, 2) := by decide +kernel
theorem dX6_run_94 : decode cX6_run 94 = .ok (.getstatic 116, 3) := by decide +kernel
theorem dX6_run_97 : decode cX6_run 97 = .ok (.if_acmp .ne 6, 3) := by decide +kernel
theorem dX6_run_100 : decode cX6_run 100 = .ok (.bipush (-11), 2) := by decide +kernel
theorem dX6_run_102 : decode cX6_run 102 = .ok (.ireturn, 1) := by decide +kernel
theorem dX6_run_103 : decode cX6_run 103 = .ok (.iinc 4 1, 3) := by decide +kernel
theorem dX6_run_106 : decode cX6_run 106 = .ok (.goto (-76), 3) := by decide +kernel
theorem dX6_run_109 : decode cX6_run 109 = .ok (.iload_n 2, 1) := by decide +kernel
theorem dX6_run_110 : decode cX6_run 110 = .ok (.iload_n 1, 1) := by decide +kernel
theorem dX6_run_111 : decode cX6_run 111 = .ok (.isub, 1) := by decide +kernel
theorem dX6_run_112 : decode cX6_run 112 = .ok (.iconst 1, 1) := by decide +kernel
theorem dX6_run_113 : decode cX6_run 113 = .ok (.iadd, 1) := by decide +kernel
theorem dX6_run_114 : decode cX6_run 114 = .ok (.ireturn, 1) := by decide +kernel
set_option maxRecDepth 20000 in
theorem ggX6_why_X6_within : GoodIn wsX6_why wsX6_within := goodIn_r _ [7] (by decide +kernel) (by decide +kernel)
set_option maxRecDepth 20000 in
theorem gX6_why_X6_within : GoodIn wsX6_why (va_wsS RX6 48 yX6_within wsX6_within) := goodIn_app (goodIn_of _ (by decide +kernel)) ggX6_why_X6_within
theorem dX6_why_0 : decode cX6_why 0 = .ok (.iload_n 1, 1) := by decide +kernel
theorem dX6_why_1 : decode cX6_why 1 = .ok (.iconst 0, 1) := by decide +kernel
theorem dX6_why_2 : decode cX6_why 2 = .ok (.aload_n 0, 1) := by decide +kernel
theorem dX6_why_3 : decode cX6_why 3 = .ok (.getfield 38, 3) := by decide +kernel
theorem dX6_why_6 : decode cX6_why 6 = .ok (.getfield 119, 3) := by decide +kernel
theorem dX6_why_9 : decode cX6_why 9 = .ok (.iconst 1, 1) := by decide +kernel
theorem dX6_why_10 : decode cX6_why 10 = .ok (.isub, 1) := by decide +kernel
theorem dX6_why_11 : decode cX6_why 11 = .ok (.invokestatic 48, 3) := by decide +kernel
theorem dX6_why_14 : decode cX6_why 14 = .ok (.ifCond .eq 25, 3) := by decide +kernel
theorem dX6_why_17 : decode cX6_why 17 = .ok (.aload_n 0, 1) := by decide +kernel
theorem dX6_why_18 : decode cX6_why 18 = .ok (.getfield 38, 3) := by decide +kernel
theorem dX6_why_21 : decode cX6_why 21 = .ok (.getfield 122, 3) := by decide +kernel
theorem dX6_why_24 : decode cX6_why 24 = .ok (.aload_n 0, 1) := by decide +kernel
theorem dX6_why_25 : decode cX6_why 25 = .ok (.getfield 38, 3) := by decide +kernel
theorem dX6_why_28 : decode cX6_why 28 = .ok (.getfield 119, 3) := by decide +kernel
theorem dX6_why_31 : decode cX6_why 31 = .ok (.iconst 1, 1) := by decide +kernel
theorem dX6_why_32 : decode cX6_why 32 = .ok (.isub, 1) := by decide +kernel
theorem dX6_why_33 : decode cX6_why 33 = .ok (.iload_n 1, 1) := by decide +kernel
theorem dX6_why_34 : decode cX6_why 34 = .ok (.isub, 1) := by decide +kernel
theorem dX6_why_35 : decode cX6_why 35 = .ok (.iaload, 1) := by decide +kernel
theorem dX6_why_36 : decode cX6_why 36 = .ok (.goto 5, 3) := by decide +kernel
theorem dX6_why_39 : decode cX6_why 39 = .ok (.bipush (-4), 2) := by decide +kernel
theorem dX6_why_41 : decode cX6_why 41 = .ok (.ireturn, 1) := by decide +kernel
set_option maxRecDepth 20000 in
theorem ggX6_told_X6_within : GoodIn wsX6_told wsX6_within := goodIn_r _ [8] (by decide +kernel) (by decide +kernel)
set_option maxRecDepth 20000 in
theorem gX6_told_X6_within : GoodIn wsX6_told (va_wsS RX6 48 yX6_within wsX6_within) := goodIn_app (goodIn_of _ (by decide +kernel)) ggX6_told_X6_within
theorem dX6_told_0 : decode cX6_told 0 = .ok (.iload_n 1, 1) := by decide +kernel
theorem dX6_told_1 : decode cX6_told 1 = .ok (.iconst 0, 1) := by decide +kernel
theorem dX6_told_2 : decode cX6_told 2 = .ok (.bipush 7, 2) := by decide +kernel
theorem dX6_told_4 : decode cX6_told 4 = .ok (.invokestatic 48, 3) := by decide +kernel
theorem dX6_told_7 : decode cX6_told 7 = .ok (.ifCond .ne 5, 3) := by decide +kernel
theorem dX6_told_10 : decode cX6_told 10 = .ok (.iconst (-1), 1) := by decide +kernel
theorem dX6_told_11 : decode cX6_told 11 = .ok (.ireturn, 1) := by decide +kernel
theorem dX6_told_12 : decode cX6_told 12 = .ok (.iload_n 1, 1) := by decide +kernel
theorem dX6_told_13 : decode cX6_told 13 = .ok (.bipush 7, 2) := by decide +kernel
theorem dX6_told_15 : decode cX6_told 15 = .ok (.if_icmp .ne 11, 3) := by decide +kernel
theorem dX6_told_18 : decode cX6_told 18 = .ok (.aload_n 0, 1) := by decide +kernel
theorem dX6_told_19 : decode cX6_told 19 = .ok (.getfield 38, 3) := by decide +kernel
theorem dX6_told_22 : decode cX6_told 22 = .ok (.getfield 125, 3) := by decide +kernel
theorem dX6_told_25 : decode cX6_told 25 = .ok (.ireturn, 1) := by decide +kernel
theorem dX6_told_26 : decode cX6_told 26 = .ok (.iload_n 1, 1) := by decide +kernel
theorem dX6_told_27 : decode cX6_told 27 = .ok (.bipush 6, 2) := by decide +kernel
theorem dX6_told_29 : decode cX6_told 29 = .ok (.if_icmp .ne 13, 3) := by decide +kernel
theorem dX6_told_32 : decode cX6_told 32 = .ok (.aload_n 0, 1) := by decide +kernel
theorem dX6_told_33 : decode cX6_told 33 = .ok (.getfield 38, 3) := by decide +kernel
theorem dX6_told_36 : decode cX6_told 36 = .ok (.getfield 128, 3) := by decide +kernel
theorem dX6_told_39 : decode cX6_told 39 = .ok (.goto 14, 3) := by decide +kernel
theorem dX6_told_42 : decode cX6_told 42 = .ok (.aload_n 0, 1) := by decide +kernel
theorem dX6_told_43 : decode cX6_told 43 = .ok (.getfield 38, 3) := by decide +kernel
theorem dX6_told_46 : decode cX6_told 46 = .ok (.getfield 131, 3) := by decide +kernel
theorem dX6_told_49 : decode cX6_told 49 = .ok (.iload_n 1, 1) := by decide +kernel
theorem dX6_told_50 : decode cX6_told 50 = .ok (.iconst 1, 1) := by decide +kernel
theorem dX6_told_51 : decode cX6_told 51 = .ok (.iadd, 1) := by decide +kernel
theorem dX6_told_52 : decode cX6_told 52 = .ok (.iaload, 1) := by decide +kernel
theorem dX6_told_53 : decode cX6_told 53 = .ok (.ireturn, 1) := by decide +kernel
set_option maxRecDepth 20000 in
theorem ggX6_trace_X6_within : GoodIn wsX6_trace wsX6_within := goodIn_r _ [11] (by decide +kernel) (by decide +kernel)
set_option maxRecDepth 20000 in
theorem gX6_trace_X6_within : GoodIn wsX6_trace (va_wsS RX6 48 yX6_within wsX6_within) := goodIn_app (goodIn_of _ (by decide +kernel)) ggX6_trace_X6_within
theorem dX6_trace_0 : decode cX6_trace 0 = .ok (.iload_n 1, 1) := by decide +kernel
theorem dX6_trace_1 : decode cX6_trace 1 = .ok (.iconst 0, 1) := by decide +kernel
theorem dX6_trace_2 : decode cX6_trace 2 = .ok (.aload_n 0, 1) := by decide +kernel
theorem dX6_trace_3 : decode cX6_trace 3 = .ok (.getfield 38, 3) := by decide +kernel
theorem dX6_trace_6 : decode cX6_trace 6 = .ok (.getfield 125, 3) := by decide +kernel
theorem dX6_trace_9 : decode cX6_trace 9 = .ok (.sipush 400, 3) := by decide +kernel
theorem dX6_trace_12 : decode cX6_trace 12 = .ok (.invokestatic 134, 3) := by decide +kernel
theorem dX6_trace_15 : decode cX6_trace 15 = .ok (.iconst 1, 1) := by decide +kernel
theorem dX6_trace_16 : decode cX6_trace 16 = .ok (.isub, 1) := by decide +kernel
theorem dX6_trace_17 : decode cX6_trace 17 = .ok (.invokestatic 48, 3) := by decide +kernel
theorem dX6_trace_20 : decode cX6_trace 20 = .ok (.ifCond .eq 15, 3) := by decide +kernel
theorem dX6_trace_23 : decode cX6_trace 23 = .ok (.aload_n 0, 1) := by decide +kernel
theorem dX6_trace_24 : decode cX6_trace 24 = .ok (.getfield 38, 3) := by decide +kernel
theorem dX6_trace_27 : decode cX6_trace 27 = .ok (.getfield 139, 3) := by decide +kernel
theorem dX6_trace_30 : decode cX6_trace 30 = .ok (.iload_n 1, 1) := by decide +kernel
theorem dX6_trace_31 : decode cX6_trace 31 = .ok (.iaload, 1) := by decide +kernel
theorem dX6_trace_32 : decode cX6_trace 32 = .ok (.goto 5, 3) := by decide +kernel
theorem dX6_trace_35 : decode cX6_trace 35 = .ok (.bipush (-4), 2) := by decide +kernel
theorem dX6_trace_37 : decode cX6_trace 37 = .ok (.ireturn, 1) := by decide +kernel
set_option maxRecDepth 20000 in
theorem ggX6_noted_X6_within : GoodIn wsX6_noted wsX6_within := goodIn_r _ [7] (by decide +kernel) (by decide +kernel)
set_option maxRecDepth 20000 in
theorem gX6_noted_X6_within : GoodIn wsX6_noted (va_wsS RX6 48 yX6_within wsX6_within) := goodIn_app (goodIn_of _ (by decide +kernel)) ggX6_noted_X6_within
theorem dX6_noted_0 : decode cX6_noted 0 = .ok (.iload_n 1, 1) := by decide +kernel
theorem dX6_noted_1 : decode cX6_noted 1 = .ok (.iconst 0, 1) := by decide +kernel
theorem dX6_noted_2 : decode cX6_noted 2 = .ok (.aload_n 0, 1) := by decide +kernel
theorem dX6_noted_3 : decode cX6_noted 3 = .ok (.getfield 38, 3) := by decide +kernel
theorem dX6_noted_6 : decode cX6_noted 6 = .ok (.getfield 128, 3) := by decide +kernel
theorem dX6_noted_9 : decode cX6_noted 9 = .ok (.iconst 1, 1) := by decide +kernel
theorem dX6_noted_10 : decode cX6_noted 10 = .ok (.isub, 1) := by decide +kernel
theorem dX6_noted_11 : decode cX6_noted 11 = .ok (.invokestatic 48, 3) := by decide +kernel
theorem dX6_noted_14 : decode cX6_noted 14 = .ok (.ifCond .eq 15, 3) := by decide +kernel
theorem dX6_noted_17 : decode cX6_noted 17 = .ok (.aload_n 0, 1) := by decide +kernel
theorem dX6_noted_18 : decode cX6_noted 18 = .ok (.getfield 38, 3) := by decide +kernel
theorem dX6_noted_21 : decode cX6_noted 21 = .ok (.getfield 142, 3) := by decide +kernel
theorem dX6_noted_24 : decode cX6_noted 24 = .ok (.iload_n 1, 1) := by decide +kernel
theorem dX6_noted_25 : decode cX6_noted 25 = .ok (.iaload, 1) := by decide +kernel
theorem dX6_noted_26 : decode cX6_noted 26 = .ok (.goto 5, 3) := by decide +kernel
theorem dX6_noted_29 : decode cX6_noted 29 = .ok (.bipush (-4), 2) := by decide +kernel
theorem dX6_noted_31 : decode cX6_noted 31 = .ok (.ireturn, 1) := by decide +kernel
set_option maxRecDepth 20000 in
theorem ggX6_drops_X6_within : GoodIn wsX6_drops wsX6_within := goodIn_r _ [5] (by decide +kernel) (by decide +kernel)
set_option maxRecDepth 20000 in
theorem gX6_drops_X6_within : GoodIn wsX6_drops (va_wsS RX6 48 yX6_within wsX6_within) := goodIn_app (goodIn_of _ (by decide +kernel)) ggX6_drops_X6_within
set_option maxRecDepth 20000 in
theorem ggX6_drops_X6_orNone : GoodIn wsX6_drops wsX6_orNone := goodIn_r _ [8] (by decide +kernel) (by decide +kernel)
set_option maxRecDepth 20000 in
theorem gX6_drops_X6_orNone : GoodIn wsX6_drops (va_wsS RX6 52 yX6_orNone wsX6_orNone) := goodIn_app (goodIn_of _ (by decide +kernel)) ggX6_drops_X6_orNone
theorem dX6_drops_0 : decode cX6_drops 0 = .ok (.iload_n 1, 1) := by decide +kernel
theorem dX6_drops_1 : decode cX6_drops 1 = .ok (.iconst 0, 1) := by decide +kernel
theorem dX6_drops_2 : decode cX6_drops 2 = .ok (.bipush 7, 2) := by decide +kernel
theorem dX6_drops_4 : decode cX6_drops 4 = .ok (.invokestatic 48, 3) := by decide +kernel
theorem dX6_drops_7 : decode cX6_drops 7 = .ok (.ifCond .eq 15, 3) := by decide +kernel
theorem dX6_drops_10 : decode cX6_drops 10 = .ok (.aload_n 0, 1) := by decide +kernel
theorem dX6_drops_11 : decode cX6_drops 11 = .ok (.getfield 9, 3) := by decide +kernel
theorem dX6_drops_14 : decode cX6_drops 14 = .ok (.iload_n 1, 1) := by decide +kernel
theorem dX6_drops_15 : decode cX6_drops 15 = .ok (.iaload, 1) := by decide +kernel
theorem dX6_drops_16 : decode cX6_drops 16 = .ok (.invokestatic 52, 3) := by decide +kernel
theorem dX6_drops_19 : decode cX6_drops 19 = .ok (.goto 4, 3) := by decide +kernel
theorem dX6_drops_22 : decode cX6_drops 22 = .ok (.iconst (-1), 1) := by decide +kernel
theorem dX6_drops_23 : decode cX6_drops 23 = .ok (.ireturn, 1) := by decide +kernel
theorem dX6_sum_0 : decode cX6_sum 0 = .ok (.iconst 0, 1) := by decide +kernel
theorem dX6_sum_1 : decode cX6_sum 1 = .ok (.istore_n 1, 1) := by decide +kernel
theorem dX6_sum_2 : decode cX6_sum 2 = .ok (.aload_n 0, 1) := by decide +kernel
theorem dX6_sum_3 : decode cX6_sum 3 = .ok (.getfield 9, 3) := by decide +kernel
theorem dX6_sum_6 : decode cX6_sum 6 = .ok (.astore_n 2, 1) := by decide +kernel
theorem dX6_sum_7 : decode cX6_sum 7 = .ok (.aload_n 2, 1) := by decide +kernel
theorem dX6_sum_8 : decode cX6_sum 8 = .ok (.arraylength, 1) := by decide +kernel
theorem dX6_sum_9 : decode cX6_sum 9 = .ok (.istore_n 3, 1) := by decide +kernel
theorem dX6_sum_10 : decode cX6_sum 10 = .ok (.iconst 0, 1) := by decide +kernel
theorem dX6_sum_11 : decode cX6_sum 11 = .ok (.istore 4, 2) := by decide +kernel
theorem dX6_sum_13 : decode cX6_sum 13 = .ok (.iload 4, 2) := by decide +kernel
theorem dX6_sum_15 : decode cX6_sum 15 = .ok (.iload_n 3, 1) := by decide +kernel
theorem dX6_sum_16 : decode cX6_sum 16 = .ok (.if_icmp .ge 26, 3) := by decide +kernel
theorem dX6_sum_19 : decode cX6_sum 19 = .ok (.aload_n 2, 1) := by decide +kernel
theorem dX6_sum_20 : decode cX6_sum 20 = .ok (.iload 4, 2) := by decide +kernel
theorem dX6_sum_22 : decode cX6_sum 22 = .ok (.iaload, 1) := by decide +kernel
theorem dX6_sum_23 : decode cX6_sum 23 = .ok (.istore 5, 2) := by decide +kernel
theorem dX6_sum_25 : decode cX6_sum 25 = .ok (.iload 5, 2) := by decide +kernel
theorem dX6_sum_27 : decode cX6_sum 27 = .ok (.iconst (-1), 1) := by decide +kernel
theorem dX6_sum_28 : decode cX6_sum 28 = .ok (.if_icmp .eq 8, 3) := by decide +kernel
theorem dX6_sum_31 : decode cX6_sum 31 = .ok (.iload_n 1, 1) := by decide +kernel
theorem dX6_sum_32 : decode cX6_sum 32 = .ok (.iload 5, 2) := by decide +kernel
theorem dX6_sum_34 : decode cX6_sum 34 = .ok (.iadd, 1) := by decide +kernel
theorem dX6_sum_35 : decode cX6_sum 35 = .ok (.istore_n 1, 1) := by decide +kernel
theorem dX6_sum_36 : decode cX6_sum 36 = .ok (.iinc 4 1, 3) := by decide +kernel
theorem dX6_sum_39 : decode cX6_sum 39 = .ok (.goto (-26), 3) := by decide +kernel
theorem dX6_sum_42 : decode cX6_sum 42 = .ok (.iload_n 1, 1) := by decide +kernel
theorem dX6_sum_43 : decode cX6_sum 43 = .ok (.ireturn, 1) := by decide +kernel
theorem dX6_within_0 : decode cX6_within 0 = .ok (.iload_n 0, 1) := by decide +kernel
theorem dX6_within_1 : decode cX6_within 1 = .ok (.iload_n 1, 1) := by decide +kernel
theorem dX6_within_2 : decode cX6_within 2 = .ok (.if_icmp .lt 12, 3) := by decide +kernel
theorem dX6_within_5 : decode cX6_within 5 = .ok (.iload_n 0, 1) := by decide +kernel
theorem dX6_within_6 : decode cX6_within 6 = .ok (.iload_n 2, 1) := by decide +kernel
theorem dX6_within_7 : decode cX6_within 7 = .ok (.if_icmp .gt 7, 3) := by decide +kernel
theorem dX6_within_10 : decode cX6_within 10 = .ok (.iconst 1, 1) := by decide +kernel
theorem dX6_within_11 : decode cX6_within 11 = .ok (.goto 4, 3) := by decide +kernel
theorem dX6_within_14 : decode cX6_within 14 = .ok (.iconst 0, 1) := by decide +kernel
theorem dX6_within_15 : decode cX6_within 15 = .ok (.ireturn, 1) := by decide +kernel
theorem dX6_orNone_0 : decode cX6_orNone 0 = .ok (.iload_n 0, 1) := by decide +kernel
theorem dX6_orNone_1 : decode cX6_orNone 1 = .ok (.iconst (-1), 1) := by decide +kernel
theorem dX6_orNone_2 : decode cX6_orNone 2 = .ok (.if_icmp .ne 8, 3) := by decide +kernel
theorem dX6_orNone_5 : decode cX6_orNone 5 = .ok (.bipush (-4), 2) := by decide +kernel
theorem dX6_orNone_7 : decode cX6_orNone 7 = .ok (.goto 4, 3) := by decide +kernel
theorem dX6_orNone_10 : decode cX6_orNone 10 = .ok (.iload_n 0, 1) := by decide +kernel
theorem dX6_orNone_11 : decode cX6_orNone 11 = .ok (.ireturn, 1) := by decide +kernel
set_option maxRecDepth 20000 in
theorem ggX6_doBatch_X1_mark : GoodIn wsX6_doBatch wsX1_mark := goodIn_r _ [13, 14, 15, 16, 142, 143, 144, 145, 146, 147, 148] (by decide +kernel) (by decide +kernel)
set_option maxRecDepth 20000 in
theorem gX6_doBatch_X1_mark : GoodIn wsX6_doBatch (wsV RX6 148 RX1 yX1_mark wsX1_mark) := goodIn_app (goodIn_of _ (by decide +kernel)) ggX6_doBatch_X1_mark
set_option maxRecDepth 20000 in
theorem ggX6_doBatch_X6_doRound : GoodIn wsX6_doBatch wsX6_doRound := goodIn_r _ [21, 22, 2, 23, 24, 25, 26, 12, 27, 28, 29, 30, 9, 10, 11, 13, 14, 15, 16, 31, 32, 33, 20, 34, 35, 36, 37, 38, 39, 40, 1, 41, 42, 43, 44, 5, 8, 45, 46, 47, 48, 49, 50, 51, 52, 53, 54, 55, 56, 57, 58, 59, 60, 61, 62, 63, 64, 65, 66, 67, 68, 69, 70, 71, 72, 73, 74, 75, 76, 77, 78, 79, 80, 81, 82, 83, 84, 85, 86, 87, 88, 89, 90, 91, 92, 93, 94, 95, 96, 97, 98, 99, 100, 101, 102, 103, 104, 105, 106, 107, 108, 109, 110, 111, 112, 113, 114, 115, 116, 117, 149, 150, 151, 152, 132, 133, 134, 135, 136, 137, 138, 142, 143, 144, 145, 146, 147, 148, 153, 154, 155, 156, 157, 158, 159, 160, 161] (by decide +kernel) (by decide +kernel)
set_option maxRecDepth 20000 in
theorem gX6_doBatch_X6_doRound : GoodIn wsX6_doBatch (wsV RX6 151 RX6 yX6_doRound wsX6_doRound) := goodIn_app (goodIn_of _ (by decide +kernel)) ggX6_doBatch_X6_doRound
set_option maxRecDepth 20000 in
theorem ggX6_doBatch_X6_takeFailure : GoodIn wsX6_doBatch wsX6_takeFailure := goodIn_r _ [121, 2, 1, 6, 122, 123, 124, 12, 125, 29, 126, 127, 28, 128, 129, 130, 131, 132, 133, 134, 135, 136, 137, 138, 142, 143, 144, 145, 146, 147, 148] (by decide +kernel) (by decide +kernel)
set_option maxRecDepth 20000 in
theorem gX6_doBatch_X6_takeFailure : GoodIn wsX6_doBatch (wsV RX6 161 RX6 yX6_takeFailure wsX6_takeFailure) := goodIn_app (goodIn_of _ (by decide +kernel)) ggX6_doBatch_X6_takeFailure
theorem dX6_doBatch_0 : decode cX6_doBatch 0 = .ok (.getstatic 145, 3) := by decide +kernel
theorem dX6_doBatch_3 : decode cX6_doBatch 3 = .ok (.astore_n 2, 1) := by decide +kernel
theorem dX6_doBatch_4 : decode cX6_doBatch 4 = .ok (.aload_n 0, 1) := by decide +kernel
theorem dX6_doBatch_5 : decode cX6_doBatch 5 = .ok (.getfield 38, 3) := by decide +kernel
theorem dX6_doBatch_8 : decode cX6_doBatch 8 = .ok (.iconst 1, 1) := by decide +kernel
theorem dX6_doBatch_9 : decode cX6_doBatch 9 = .ok (.invokevirtual 148, 3) := by decide +kernel
theorem dX6_doBatch_12 : decode cX6_doBatch 12 = .ok (.iconst 0, 1) := by decide +kernel
theorem dX6_doBatch_13 : decode cX6_doBatch 13 = .ok (.istore_n 3, 1) := by decide +kernel
theorem dX6_doBatch_14 : decode cX6_doBatch 14 = .ok (.iload_n 3, 1) := by decide +kernel
theorem dX6_doBatch_15 : decode cX6_doBatch 15 = .ok (.aload_n 1, 1) := by decide +kernel
theorem dX6_doBatch_16 : decode cX6_doBatch 16 = .ok (.getfield 56, 3) := by decide +kernel
theorem dX6_doBatch_19 : decode cX6_doBatch 19 = .ok (.if_icmp .ge 58, 3) := by decide +kernel
theorem dX6_doBatch_22 : decode cX6_doBatch 22 = .ok (.aload_n 2, 1) := by decide +kernel
theorem dX6_doBatch_23 : decode cX6_doBatch 23 = .ok (.getstatic 145, 3) := by decide +kernel
theorem dX6_doBatch_26 : decode cX6_doBatch 26 = .ok (.if_acmp .ne 51, 3) := by decide +kernel
theorem dX6_doBatch_29 : decode cX6_doBatch 29 = .ok (.aload_n 0, 1) := by decide +kernel
theorem dX6_doBatch_30 : decode cX6_doBatch 30 = .ok (.aload_n 1, 1) := by decide +kernel
theorem dX6_doBatch_31 : decode cX6_doBatch 31 = .ok (.getfield 69, 3) := by decide +kernel
theorem dX6_doBatch_34 : decode cX6_doBatch 34 = .ok (.iload_n 3, 1) := by decide +kernel
theorem dX6_doBatch_35 : decode cX6_doBatch 35 = .ok (.aaload, 1) := by decide +kernel
theorem dX6_doBatch_36 : decode cX6_doBatch 36 = .ok (.invokevirtual 151, 3) := by decide +kernel
theorem dX6_doBatch_39 : decode cX6_doBatch 39 = .ok (.astore_n 2, 1) := by decide +kernel
theorem dX6_doBatch_40 : decode cX6_doBatch 40 = .ok (.aload_n 2, 1) := by decide +kernel
theorem dX6_doBatch_41 : decode cX6_doBatch 41 = .ok (.getstatic 155, 3) := by decide +kernel
theorem dX6_doBatch_44 : decode cX6_doBatch 44 = .ok (.if_acmp .ne 10, 3) := by decide +kernel
theorem dX6_doBatch_47 : decode cX6_doBatch 47 = .ok (.getstatic 145, 3) := by decide +kernel
theorem dX6_doBatch_50 : decode cX6_doBatch 50 = .ok (.astore_n 2, 1) := by decide +kernel
theorem dX6_doBatch_51 : decode cX6_doBatch 51 = .ok (.goto 20, 3) := by decide +kernel
theorem dX6_doBatch_54 : decode cX6_doBatch 54 = .ok (.aload_n 2, 1) := by decide +kernel
theorem dX6_doBatch_55 : decode cX6_doBatch 55 = .ok (.getstatic 104, 3) := by decide +kernel
theorem dX6_doBatch_58 : decode cX6_doBatch 58 = .ok (.if_acmp .ne 13, 3) := by decide +kernel
theorem dX6_doBatch_61 : decode cX6_doBatch 61 = .ok (.aload_n 0, 1) := by decide +kernel
theorem dX6_doBatch_62 : decode cX6_doBatch 62 = .ok (.aload_n 1, 1) := by decide +kernel
theorem dX6_doBatch_63 : decode cX6_doBatch 63 = .ok (.getfield 158, 3) := by decide +kernel
theorem dX6_doBatch_66 : decode cX6_doBatch 66 = .ok (.iload_n 3, 1) := by decide +kernel
theorem dX6_doBatch_67 : decode cX6_doBatch 67 = .ok (.invokevirtual 161, 3) := by decide +kernel
theorem dX6_doBatch_70 : decode cX6_doBatch 70 = .ok (.astore_n 2, 1) := by decide +kernel
theorem dX6_doBatch_71 : decode cX6_doBatch 71 = .ok (.iinc 3 1, 3) := by decide +kernel
theorem dX6_doBatch_74 : decode cX6_doBatch 74 = .ok (.goto (-60), 3) := by decide +kernel
theorem dX6_doBatch_77 : decode cX6_doBatch 77 = .ok (.aload_n 0, 1) := by decide +kernel
theorem dX6_doBatch_78 : decode cX6_doBatch 78 = .ok (.getfield 38, 3) := by decide +kernel
theorem dX6_doBatch_81 : decode cX6_doBatch 81 = .ok (.iconst 2, 1) := by decide +kernel
theorem dX6_doBatch_82 : decode cX6_doBatch 82 = .ok (.invokevirtual 148, 3) := by decide +kernel
theorem dX6_doBatch_85 : decode cX6_doBatch 85 = .ok (.aload_n 2, 1) := by decide +kernel
theorem dX6_doBatch_86 : decode cX6_doBatch 86 = .ok (.getstatic 165, 3) := by decide +kernel
theorem dX6_doBatch_89 : decode cX6_doBatch 89 = .ok (.if_acmp .ne 9, 3) := by decide +kernel
theorem dX6_doBatch_92 : decode cX6_doBatch 92 = .ok (.getstatic 145, 3) := by decide +kernel
theorem dX6_doBatch_95 : decode cX6_doBatch 95 = .ok (.goto 4, 3) := by decide +kernel
theorem dX6_doBatch_98 : decode cX6_doBatch 98 = .ok (.aload_n 2, 1) := by decide +kernel
theorem dX6_doBatch_99 : decode cX6_doBatch 99 = .ok (.areturn, 1) := by decide +kernel
set_option maxRecDepth 20000 in
theorem ggX6_takeFailure_X1_noteFailure : GoodIn wsX6_takeFailure wsX1_noteFailure := goodIn_r _ [8, 9, 10, 11, 12, 24, 25, 26, 27, 28, 29, 30] (by decide +kernel) (by decide +kernel)
set_option maxRecDepth 20000 in
theorem gX6_takeFailure_X1_noteFailure : GoodIn wsX6_takeFailure (wsV RX6 168 RX1 yX1_noteFailure wsX1_noteFailure) := goodIn_app (goodIn_of _ (by decide +kernel)) ggX6_takeFailure_X1_noteFailure
set_option maxRecDepth 20000 in
theorem ggX6_takeFailure_X1_failInStead : GoodIn wsX6_takeFailure wsX1_failInStead := goodIn_r _ [16, 9, 12, 24, 25, 26, 27, 28, 29, 30] (by decide +kernel) (by decide +kernel)
set_option maxRecDepth 20000 in
theorem gX6_takeFailure_X1_failInStead : GoodIn wsX6_takeFailure (wsV RX6 110 RX1 yX1_failInStead wsX1_failInStead) := goodIn_app (goodIn_of _ (by decide +kernel)) ggX6_takeFailure_X1_failInStead
theorem dX6_takeFailure_0 : decode cX6_takeFailure 0 = .ok (.iload_n 1, 1) := by decide +kernel
theorem dX6_takeFailure_1 : decode cX6_takeFailure 1 = .ok (.iconst 1, 1) := by decide +kernel
theorem dX6_takeFailure_2 : decode cX6_takeFailure 2 = .ok (.if_icmp .ne 14, 3) := by decide +kernel
theorem dX6_takeFailure_5 : decode cX6_takeFailure 5 = .ok (.aload_n 0, 1) := by decide +kernel
theorem dX6_takeFailure_6 : decode cX6_takeFailure 6 = .ok (.getfield 38, 3) := by decide +kernel
theorem dX6_takeFailure_9 : decode cX6_takeFailure 9 = .ok (.invokevirtual 168, 3) := by decide +kernel
theorem dX6_takeFailure_12 : decode cX6_takeFailure 12 = .ok (.getstatic 145, 3) := by decide +kernel
theorem dX6_takeFailure_15 : decode cX6_takeFailure 15 = .ok (.areturn, 1) := by decide +kernel
theorem dX6_takeFailure_16 : decode cX6_takeFailure 16 = .ok (.iload_n 1, 1) := by decide +kernel
theorem dX6_takeFailure_17 : decode cX6_takeFailure 17 = .ok (.iconst 2, 1) := by decide +kernel
theorem dX6_takeFailure_18 : decode cX6_takeFailure 18 = .ok (.if_icmp .ne 14, 3) := by decide +kernel
theorem dX6_takeFailure_21 : decode cX6_takeFailure 21 = .ok (.aload_n 0, 1) := by decide +kernel
theorem dX6_takeFailure_22 : decode cX6_takeFailure 22 = .ok (.getfield 38, 3) := by decide +kernel
theorem dX6_takeFailure_25 : decode cX6_takeFailure 25 = .ok (.bipush 20, 2) := by decide +kernel
theorem dX6_takeFailure_27 : decode cX6_takeFailure 27 = .ok (.iload_n 2, 1) := by decide +kernel
theorem dX6_takeFailure_28 : decode cX6_takeFailure 28 = .ok (.iadd, 1) := by decide +kernel
theorem dX6_takeFailure_29 : decode cX6_takeFailure 29 = .ok (.invokevirtual 110, 3) := by decide +kernel
theorem dX6_takeFailure_32 : decode cX6_takeFailure 32 = .ok (.getstatic 104, 3) := by decide +kernel
theorem dX6_takeFailure_35 : decode cX6_takeFailure 35 = .ok (.areturn, 1) := by decide +kernel
set_option maxRecDepth 20000 in
theorem ggX6_doRound_X1_fail : GoodIn wsX6_doRound wsX1_fail := goodIn_r _ [8, 9, 10, 11, 121, 122, 123, 124, 125, 126, 127] (by decide +kernel) (by decide +kernel)
set_option maxRecDepth 20000 in
theorem gX6_doRound_X1_fail : GoodIn wsX6_doRound (wsV RX6 174 RX1 yX1_fail wsX1_fail) := goodIn_app (goodIn_of _ (by decide +kernel)) ggX6_doRound_X1_fail
set_option maxRecDepth 20000 in
theorem ggX6_doRound_X1_mark : GoodIn wsX6_doRound wsX1_mark := goodIn_r _ [15, 16, 17, 18, 121, 122, 123, 124, 125, 126, 127] (by decide +kernel) (by decide +kernel)
set_option maxRecDepth 20000 in
theorem gX6_doRound_X1_mark : GoodIn wsX6_doRound (wsV RX6 148 RX1 yX1_mark wsX1_mark) := goodIn_app (goodIn_of _ (by decide +kernel)) ggX6_doRound_X1_mark
set_option maxRecDepth 20000 in
theorem ggX6_doRound_X6_doSteps : GoodIn wsX6_doRound wsX6_doSteps := goodIn_r _ [23, 24, 2, 25, 26, 27, 28, 1, 29, 30, 12, 13, 14, 7, 15, 16, 17, 18, 31, 32, 33, 22, 34, 35, 36, 37, 38, 3, 39, 40, 41, 42, 4, 5, 6, 8, 9, 10, 11, 43, 44, 45, 46, 47, 48, 49, 50, 51, 52, 53, 54, 55, 56, 57, 58, 59, 60, 61, 62, 63, 64, 65, 66, 67, 68, 69, 70, 71, 72, 73, 74, 75, 76, 77, 78, 79, 80, 81, 82, 83, 84, 85, 86, 87, 88, 89, 90, 91, 92, 93, 94, 95, 96, 97, 98, 99, 100, 101, 102, 103, 104, 105, 106, 107, 108, 109, 110, 111, 112, 113, 114, 115, 116, 117, 118, 119, 120, 121, 122, 123, 124, 125, 126, 127, 128, 129, 130, 131, 132, 133, 134, 135, 136] (by decide +kernel) (by decide +kernel)
set_option maxRecDepth 20000 in
theorem gX6_doRound_X6_doSteps : GoodIn wsX6_doRound (wsV RX6 178 RX6 yX6_doSteps wsX6_doSteps) := goodIn_app (goodIn_of _ (by decide +kernel)) ggX6_doRound_X6_doSteps
theorem dX6_doRound_0 : decode cX6_doRound 0 = .ok (.aload_n 1, 1) := by decide +kernel
theorem dX6_doRound_1 : decode cX6_doRound 1 = .ok (.getfield 171, 3) := by decide +kernel
theorem dX6_doRound_4 : decode cX6_doRound 4 = .ok (.bipush 8, 2) := by decide +kernel
theorem dX6_doRound_6 : decode cX6_doRound 6 = .ok (.if_icmp .lt 12, 3) := by decide +kernel
theorem dX6_doRound_9 : decode cX6_doRound 9 = .ok (.aload_n 0, 1) := by decide +kernel
theorem dX6_doRound_10 : decode cX6_doRound 10 = .ok (.getfield 38, 3) := by decide +kernel
theorem dX6_doRound_13 : decode cX6_doRound 13 = .ok (.iconst 4, 1) := by decide +kernel
theorem dX6_doRound_14 : decode cX6_doRound 14 = .ok (.invokevirtual 174, 3) := by decide +kernel
theorem dX6_doRound_17 : decode cX6_doRound 17 = .ok (.areturn, 1) := by decide +kernel
theorem dX6_doRound_18 : decode cX6_doRound 18 = .ok (.aload_n 0, 1) := by decide +kernel
theorem dX6_doRound_19 : decode cX6_doRound 19 = .ok (.getfield 9, 3) := by decide +kernel
theorem dX6_doRound_22 : decode cX6_doRound 22 = .ok (.aload_n 1, 1) := by decide +kernel
theorem dX6_doRound_23 : decode cX6_doRound 23 = .ok (.getfield 171, 3) := by decide +kernel
theorem dX6_doRound_26 : decode cX6_doRound 26 = .ok (.iaload, 1) := by decide +kernel
theorem dX6_doRound_27 : decode cX6_doRound 27 = .ok (.iconst (-1), 1) := by decide +kernel
theorem dX6_doRound_28 : decode cX6_doRound 28 = .ok (.if_icmp .ne 12, 3) := by decide +kernel
theorem dX6_doRound_31 : decode cX6_doRound 31 = .ok (.aload_n 0, 1) := by decide +kernel
theorem dX6_doRound_32 : decode cX6_doRound 32 = .ok (.getfield 38, 3) := by decide +kernel
theorem dX6_doRound_35 : decode cX6_doRound 35 = .ok (.iconst 5, 1) := by decide +kernel
theorem dX6_doRound_36 : decode cX6_doRound 36 = .ok (.invokevirtual 174, 3) := by decide +kernel
theorem dX6_doRound_39 : decode cX6_doRound 39 = .ok (.areturn, 1) := by decide +kernel
theorem dX6_doRound_40 : decode cX6_doRound 40 = .ok (.aload_n 0, 1) := by decide +kernel
theorem dX6_doRound_41 : decode cX6_doRound 41 = .ok (.getfield 38, 3) := by decide +kernel
theorem dX6_doRound_44 : decode cX6_doRound 44 = .ok (.iconst 3, 1) := by decide +kernel
theorem dX6_doRound_45 : decode cX6_doRound 45 = .ok (.invokevirtual 148, 3) := by decide +kernel
theorem dX6_doRound_48 : decode cX6_doRound 48 = .ok (.aload_n 0, 1) := by decide +kernel
theorem dX6_doRound_49 : decode cX6_doRound 49 = .ok (.aload_n 1, 1) := by decide +kernel
theorem dX6_doRound_50 : decode cX6_doRound 50 = .ok (.invokevirtual 178, 3) := by decide +kernel
theorem dX6_doRound_53 : decode cX6_doRound 53 = .ok (.astore_n 2, 1) := by decide +kernel
theorem dX6_doRound_54 : decode cX6_doRound 54 = .ok (.aload_n 0, 1) := by decide +kernel
theorem dX6_doRound_55 : decode cX6_doRound 55 = .ok (.getfield 38, 3) := by decide +kernel
theorem dX6_doRound_58 : decode cX6_doRound 58 = .ok (.iconst 4, 1) := by decide +kernel
theorem dX6_doRound_59 : decode cX6_doRound 59 = .ok (.invokevirtual 148, 3) := by decide +kernel
theorem dX6_doRound_62 : decode cX6_doRound 62 = .ok (.aload_n 2, 1) := by decide +kernel
theorem dX6_doRound_63 : decode cX6_doRound 63 = .ok (.areturn, 1) := by decide +kernel
set_option maxRecDepth 20000 in
theorem ggX6_doSteps_X1_mark : GoodIn wsX6_doSteps wsX1_mark := goodIn_r _ [14, 15, 16, 17, 117, 118, 119, 120, 121, 122, 123] (by decide +kernel) (by decide +kernel)
set_option maxRecDepth 20000 in
theorem gX6_doSteps_X1_mark : GoodIn wsX6_doSteps (wsV RX6 148 RX1 yX1_mark wsX1_mark) := goodIn_app (goodIn_of _ (by decide +kernel)) ggX6_doSteps_X1_mark
set_option maxRecDepth 20000 in
theorem ggX6_doSteps_X6_doVialStep : GoodIn wsX6_doSteps wsX6_doVialStep := goodIn_r _ [22, 23, 24, 25, 26, 2, 27, 9, 8, 28, 29, 30, 21, 31, 32, 33, 34, 13, 35, 36, 37, 38, 39, 40, 41, 42, 43, 44, 45, 46, 47, 48, 49, 50, 110, 111, 112, 113, 114, 115, 116, 117, 118, 119, 120, 121, 122, 123] (by decide +kernel) (by decide +kernel)
set_option maxRecDepth 20000 in
theorem gX6_doSteps_X6_doVialStep : GoodIn wsX6_doSteps (wsV RX6 190 RX6 yX6_doVialStep wsX6_doVialStep) := goodIn_app (goodIn_of _ (by decide +kernel)) ggX6_doSteps_X6_doVialStep
set_option maxRecDepth 20000 in
theorem ggX6_doSteps_X6_doBenchStep : GoodIn wsX6_doSteps wsX6_doBenchStep := goodIn_r _ [54, 27, 55, 9, 2, 56, 57, 58, 59, 21, 60, 61, 62, 63, 32, 33, 34, 13, 35, 36, 37, 38, 64, 65, 66, 67, 68, 69, 70, 71, 72, 73, 74, 75, 76, 77, 78, 79, 80, 81, 82, 83, 84, 85, 86, 87, 88, 89, 90, 91, 92, 93, 94, 95, 96, 97, 98, 99, 100, 101, 28, 29, 30, 31, 102, 103, 104, 105, 110, 111, 112, 113, 114, 115, 116, 124, 125, 126, 117, 118, 119, 120, 121, 122, 123, 127, 128, 129, 130, 131, 132] (by decide +kernel) (by decide +kernel)
set_option maxRecDepth 20000 in
theorem gX6_doSteps_X6_doBenchStep : GoodIn wsX6_doSteps (wsV RX6 194 RX6 yX6_doBenchStep wsX6_doBenchStep) := goodIn_app (goodIn_of _ (by decide +kernel)) ggX6_doSteps_X6_doBenchStep
theorem dX6_doSteps_0 : decode cX6_doSteps 0 = .ok (.iconst 0, 1) := by decide +kernel
theorem dX6_doSteps_1 : decode cX6_doSteps 1 = .ok (.istore_n 2, 1) := by decide +kernel
theorem dX6_doSteps_2 : decode cX6_doSteps 2 = .ok (.iconst 0, 1) := by decide +kernel
theorem dX6_doSteps_3 : decode cX6_doSteps 3 = .ok (.istore_n 3, 1) := by decide +kernel
theorem dX6_doSteps_4 : decode cX6_doSteps 4 = .ok (.iconst 0, 1) := by decide +kernel
theorem dX6_doSteps_5 : decode cX6_doSteps 5 = .ok (.istore 4, 2) := by decide +kernel
theorem dX6_doSteps_7 : decode cX6_doSteps 7 = .ok (.iload 4, 2) := by decide +kernel
theorem dX6_doSteps_9 : decode cX6_doSteps 9 = .ok (.sipush 200, 3) := by decide +kernel
theorem dX6_doSteps_12 : decode cX6_doSteps 12 = .ok (.if_icmp .gt 139, 3) := by decide +kernel
theorem dX6_doSteps_15 : decode cX6_doSteps 15 = .ok (.iload_n 2, 1) := by decide +kernel
theorem dX6_doSteps_16 : decode cX6_doSteps 16 = .ok (.aload_n 1, 1) := by decide +kernel
theorem dX6_doSteps_17 : decode cX6_doSteps 17 = .ok (.getfield 181, 3) := by decide +kernel
theorem dX6_doSteps_20 : decode cX6_doSteps 20 = .ok (.if_icmp .ge 131, 3) := by decide +kernel
theorem dX6_doSteps_23 : decode cX6_doSteps 23 = .ok (.aload_n 0, 1) := by decide +kernel
theorem dX6_doSteps_24 : decode cX6_doSteps 24 = .ok (.getfield 38, 3) := by decide +kernel
theorem dX6_doSteps_27 : decode cX6_doSteps 27 = .ok (.getfield 131, 3) := by decide +kernel
theorem dX6_doSteps_30 : decode cX6_doSteps 30 = .ok (.iconst 5, 1) := by decide +kernel
theorem dX6_doSteps_31 : decode cX6_doSteps 31 = .ok (.iaload, 1) := by decide +kernel
theorem dX6_doSteps_32 : decode cX6_doSteps 32 = .ok (.sipush 200, 3) := by decide +kernel
theorem dX6_doSteps_35 : decode cX6_doSteps 35 = .ok (.if_icmp .lt 7, 3) := by decide +kernel
theorem dX6_doSteps_38 : decode cX6_doSteps 38 = .ok (.getstatic 116, 3) := by decide +kernel
theorem dX6_doSteps_41 : decode cX6_doSteps 41 = .ok (.areturn, 1) := by decide +kernel
theorem dX6_doSteps_42 : decode cX6_doSteps 42 = .ok (.aload_n 1, 1) := by decide +kernel
theorem dX6_doSteps_43 : decode cX6_doSteps 43 = .ok (.getfield 184, 3) := by decide +kernel
theorem dX6_doSteps_46 : decode cX6_doSteps 46 = .ok (.iload_n 2, 1) := by decide +kernel
theorem dX6_doSteps_47 : decode cX6_doSteps 47 = .ok (.iaload, 1) := by decide +kernel
theorem dX6_doSteps_48 : decode cX6_doSteps 48 = .ok (.istore 5, 2) := by decide +kernel
theorem dX6_doSteps_50 : decode cX6_doSteps 50 = .ok (.aload_n 1, 1) := by decide +kernel
theorem dX6_doSteps_51 : decode cX6_doSteps 51 = .ok (.getfield 187, 3) := by decide +kernel
theorem dX6_doSteps_54 : decode cX6_doSteps 54 = .ok (.iload_n 2, 1) := by decide +kernel
theorem dX6_doSteps_55 : decode cX6_doSteps 55 = .ok (.iaload, 1) := by decide +kernel
theorem dX6_doSteps_56 : decode cX6_doSteps 56 = .ok (.istore 6, 2) := by decide +kernel
theorem dX6_doSteps_58 : decode cX6_doSteps 58 = .ok (.aload_n 0, 1) := by decide +kernel
theorem dX6_doSteps_59 : decode cX6_doSteps 59 = .ok (.getfield 38, 3) := by decide +kernel
theorem dX6_doSteps_62 : decode cX6_doSteps 62 = .ok (.iconst 5, 1) := by decide +kernel
theorem dX6_doSteps_63 : decode cX6_doSteps 63 = .ok (.invokevirtual 148, 3) := by decide +kernel
theorem dX6_doSteps_66 : decode cX6_doSteps 66 = .ok (.iload 5, 2) := by decide +kernel
theorem dX6_doSteps_68 : decode cX6_doSteps 68 = .ok (.bipush 10, 2) := by decide +kernel
theorem dX6_doSteps_70 : decode cX6_doSteps 70 = .ok (.if_icmp .ge 19, 3) := by decide +kernel
theorem dX6_doSteps_73 : decode cX6_doSteps 73 = .ok (.aload_n 0, 1) := by decide +kernel
theorem dX6_doSteps_74 : decode cX6_doSteps 74 = .ok (.iload 5, 2) := by decide +kernel
theorem dX6_doSteps_76 : decode cX6_doSteps 76 = .ok (.iload 6, 2) := by decide +kernel
theorem dX6_doSteps_78 : decode cX6_doSteps 78 = .ok (.aload_n 1, 1) := by decide +kernel
theorem dX6_doSteps_79 : decode cX6_doSteps 79 = .ok (.getfield 171, 3) := by decide +kernel
theorem dX6_doSteps_82 : decode cX6_doSteps 82 = .ok (.iload_n 3, 1) := by decide +kernel
theorem dX6_doSteps_83 : decode cX6_doSteps 83 = .ok (.invokevirtual 190, 3) := by decide +kernel
theorem dX6_doSteps_86 : decode cX6_doSteps 86 = .ok (.goto 15, 3) := by decide +kernel
theorem dX6_doSteps_89 : decode cX6_doSteps 89 = .ok (.aload_n 0, 1) := by decide +kernel
theorem dX6_doSteps_90 : decode cX6_doSteps 90 = .ok (.iload 5, 2) := by decide +kernel
theorem dX6_doSteps_92 : decode cX6_doSteps 92 = .ok (.iload 6, 2) := by decide +kernel
theorem dX6_doSteps_94 : decode cX6_doSteps 94 = .ok (.aload_n 1, 1) := by decide +kernel
theorem dX6_doSteps_95 : decode cX6_doSteps 95 = .ok (.getfield 171, 3) := by decide +kernel
theorem dX6_doSteps_98 : decode cX6_doSteps 98 = .ok (.invokevirtual 194, 3) := by decide +kernel
theorem dX6_doSteps_101 : decode cX6_doSteps 101 = .ok (.astore 7, 2) := by decide +kernel
theorem dX6_doSteps_103 : decode cX6_doSteps 103 = .ok (.aload_n 0, 1) := by decide +kernel
theorem dX6_doSteps_104 : decode cX6_doSteps 104 = .ok (.getfield 38, 3) := by decide +kernel
theorem dX6_doSteps_107 : decode cX6_doSteps 107 = .ok (.bipush 6, 2) := by decide +kernel
theorem dX6_doSteps_109 : decode cX6_doSteps 109 = .ok (.invokevirtual 148, 3) := by decide +kernel
theorem dX6_doSteps_112 : decode cX6_doSteps 112 = .ok (.aload 7, 2) := by decide +kernel
theorem dX6_doSteps_114 : decode cX6_doSteps 114 = .ok (.getstatic 198, 3) := by decide +kernel
theorem dX6_doSteps_117 : decode cX6_doSteps 117 = .ok (.if_acmp .ne 11, 3) := by decide +kernel
theorem dX6_doSteps_120 : decode cX6_doSteps 120 = .ok (.iinc 3 1, 3) := by decide +kernel
theorem dX6_doSteps_123 : decode cX6_doSteps 123 = .ok (.iconst 0, 1) := by decide +kernel
theorem dX6_doSteps_124 : decode cX6_doSteps 124 = .ok (.istore_n 2, 1) := by decide +kernel
theorem dX6_doSteps_125 : decode cX6_doSteps 125 = .ok (.goto 20, 3) := by decide +kernel
theorem dX6_doSteps_128 : decode cX6_doSteps 128 = .ok (.aload 7, 2) := by decide +kernel
theorem dX6_doSteps_130 : decode cX6_doSteps 130 = .ok (.getstatic 145, 3) := by decide +kernel
theorem dX6_doSteps_133 : decode cX6_doSteps 133 = .ok (.if_acmp .ne 9, 3) := by decide +kernel
theorem dX6_doSteps_136 : decode cX6_doSteps 136 = .ok (.iinc 2 1, 3) := by decide +kernel
theorem dX6_doSteps_139 : decode cX6_doSteps 139 = .ok (.goto 6, 3) := by decide +kernel
theorem dX6_doSteps_142 : decode cX6_doSteps 142 = .ok (.aload 7, 2) := by decide +kernel
theorem dX6_doSteps_144 : decode cX6_doSteps 144 = .ok (.areturn, 1) := by decide +kernel
theorem dX6_doSteps_145 : decode cX6_doSteps 145 = .ok (.iinc 4 1, 3) := by decide +kernel
theorem dX6_doSteps_148 : decode cX6_doSteps 148 = .ok (.goto (-141), 3) := by decide +kernel
theorem dX6_doSteps_151 : decode cX6_doSteps 151 = .ok (.getstatic 145, 3) := by decide +kernel
theorem dX6_doSteps_154 : decode cX6_doSteps 154 = .ok (.areturn, 1) := by decide +kernel
set_option maxRecDepth 20000 in
theorem ggX6_doVialStep_X6_addDrops : GoodIn wsX6_doVialStep wsX6_addDrops := goodIn_r _ [13, 6, 5, 7, 14, 15, 16, 17, 18, 19, 20, 21, 34, 35, 36, 37, 38, 39, 40, 41, 42, 43, 44, 45, 46, 47] (by decide +kernel) (by decide +kernel)
set_option maxRecDepth 20000 in
theorem gX6_doVialStep_X6_addDrops : GoodIn wsX6_doVialStep (wsV RX6 201 RX6 yX6_addDrops wsX6_addDrops) := goodIn_app (goodIn_of _ (by decide +kernel)) ggX6_doVialStep_X6_addDrops
set_option maxRecDepth 20000 in
theorem ggX6_doVialStep_X6_drawDrops : GoodIn wsX6_doVialStep wsX6_drawDrops := goodIn_r _ [25, 6, 5, 7, 14, 15, 16, 17, 18, 19, 20, 21, 34, 35, 36, 37, 38, 39, 40, 41, 42, 43, 44, 45, 46, 47] (by decide +kernel) (by decide +kernel)
set_option maxRecDepth 20000 in
theorem gX6_doVialStep_X6_drawDrops : GoodIn wsX6_doVialStep (wsV RX6 204 RX6 yX6_drawDrops wsX6_drawDrops) := goodIn_app (goodIn_of _ (by decide +kernel)) ggX6_doVialStep_X6_drawDrops
set_option maxRecDepth 20000 in
theorem ggX6_doVialStep_X6_shareDrops : GoodIn wsX6_doVialStep wsX6_shareDrops := goodIn_r _ [29, 5, 6, 7, 14, 15, 16, 17, 18, 19, 20, 21, 34, 35, 36, 37, 38, 39, 40, 41, 42, 43, 44, 45, 46, 47] (by decide +kernel) (by decide +kernel)
set_option maxRecDepth 20000 in
theorem gX6_doVialStep_X6_shareDrops : GoodIn wsX6_doVialStep (wsV RX6 207 RX6 yX6_shareDrops wsX6_shareDrops) := goodIn_app (goodIn_of _ (by decide +kernel)) ggX6_doVialStep_X6_shareDrops
set_option maxRecDepth 20000 in
theorem ggX6_doVialStep_X6_pourDrops : GoodIn wsX6_doVialStep wsX6_pourDrops := goodIn_r _ [33, 5, 6, 7, 14, 15, 16, 17, 18, 19, 20, 21, 34, 35, 36, 37, 38, 39, 40, 41, 42, 43, 44, 45, 46, 47] (by decide +kernel) (by decide +kernel)
set_option maxRecDepth 20000 in
theorem gX6_doVialStep_X6_pourDrops : GoodIn wsX6_doVialStep (wsV RX6 210 RX6 yX6_pourDrops wsX6_pourDrops) := goodIn_app (goodIn_of _ (by decide +kernel)) ggX6_doVialStep_X6_pourDrops
set_option maxRecDepth 20000 in
theorem ggX6_doVialStep_X1_fail : GoodIn wsX6_doVialStep wsX1_fail := goodIn_r _ [18, 19, 20, 21, 41, 42, 43, 44, 45, 46, 47] (by decide +kernel) (by decide +kernel)
set_option maxRecDepth 20000 in
theorem gX6_doVialStep_X1_fail : GoodIn wsX6_doVialStep (wsV RX6 174 RX1 yX1_fail wsX1_fail) := goodIn_app (goodIn_of _ (by decide +kernel)) ggX6_doVialStep_X1_fail
theorem dX6_doVialStep_0 : decode cX6_doVialStep 0 = .ok (.iload_n 1, 1) := by decide +kernel
theorem dX6_doVialStep_1 : decode cX6_doVialStep 1 = .ok (.tableswitch 148 0 9 #[55, 62, 69, 76, 83, 87, 91, 100, 112, 132], 55) := by decide +kernel
theorem dX6_doVialStep_56 : decode cX6_doVialStep 56 = .ok (.aload_n 0, 1) := by decide +kernel
theorem dX6_doVialStep_57 : decode cX6_doVialStep 57 = .ok (.iload_n 3, 1) := by decide +kernel
theorem dX6_doVialStep_58 : decode cX6_doVialStep 58 = .ok (.iload_n 2, 1) := by decide +kernel
theorem dX6_doVialStep_59 : decode cX6_doVialStep 59 = .ok (.invokevirtual 201, 3) := by decide +kernel
theorem dX6_doVialStep_62 : decode cX6_doVialStep 62 = .ok (.areturn, 1) := by decide +kernel
theorem dX6_doVialStep_63 : decode cX6_doVialStep 63 = .ok (.aload_n 0, 1) := by decide +kernel
theorem dX6_doVialStep_64 : decode cX6_doVialStep 64 = .ok (.iload_n 3, 1) := by decide +kernel
theorem dX6_doVialStep_65 : decode cX6_doVialStep 65 = .ok (.iload_n 2, 1) := by decide +kernel
theorem dX6_doVialStep_66 : decode cX6_doVialStep 66 = .ok (.invokevirtual 204, 3) := by decide +kernel
theorem dX6_doVialStep_69 : decode cX6_doVialStep 69 = .ok (.areturn, 1) := by decide +kernel
theorem dX6_doVialStep_70 : decode cX6_doVialStep 70 = .ok (.aload_n 0, 1) := by decide +kernel
theorem dX6_doVialStep_71 : decode cX6_doVialStep 71 = .ok (.iload_n 3, 1) := by decide +kernel
theorem dX6_doVialStep_72 : decode cX6_doVialStep 72 = .ok (.iload_n 2, 1) := by decide +kernel
theorem dX6_doVialStep_73 : decode cX6_doVialStep 73 = .ok (.invokevirtual 207, 3) := by decide +kernel
theorem dX6_doVialStep_76 : decode cX6_doVialStep 76 = .ok (.areturn, 1) := by decide +kernel
theorem dX6_doVialStep_77 : decode cX6_doVialStep 77 = .ok (.aload_n 0, 1) := by decide +kernel
theorem dX6_doVialStep_78 : decode cX6_doVialStep 78 = .ok (.iload_n 3, 1) := by decide +kernel
theorem dX6_doVialStep_79 : decode cX6_doVialStep 79 = .ok (.iload_n 2, 1) := by decide +kernel
theorem dX6_doVialStep_80 : decode cX6_doVialStep 80 = .ok (.invokevirtual 210, 3) := by decide +kernel
theorem dX6_doVialStep_83 : decode cX6_doVialStep 83 = .ok (.areturn, 1) := by decide +kernel
theorem dX6_doVialStep_84 : decode cX6_doVialStep 84 = .ok (.getstatic 155, 3) := by decide +kernel
theorem dX6_doVialStep_87 : decode cX6_doVialStep 87 = .ok (.areturn, 1) := by decide +kernel
theorem dX6_doVialStep_88 : decode cX6_doVialStep 88 = .ok (.getstatic 165, 3) := by decide +kernel
theorem dX6_doVialStep_91 : decode cX6_doVialStep 91 = .ok (.areturn, 1) := by decide +kernel
theorem dX6_doVialStep_92 : decode cX6_doVialStep 92 = .ok (.aload_n 0, 1) := by decide +kernel
theorem dX6_doVialStep_93 : decode cX6_doVialStep 93 = .ok (.iload_n 2, 1) := by decide +kernel
theorem dX6_doVialStep_94 : decode cX6_doVialStep 94 = .ok (.putfield 42, 3) := by decide +kernel
theorem dX6_doVialStep_97 : decode cX6_doVialStep 97 = .ok (.getstatic 113, 3) := by decide +kernel
theorem dX6_doVialStep_100 : decode cX6_doVialStep 100 = .ok (.areturn, 1) := by decide +kernel
theorem dX6_doVialStep_101 : decode cX6_doVialStep 101 = .ok (.aload_n 0, 1) := by decide +kernel
theorem dX6_doVialStep_102 : decode cX6_doVialStep 102 = .ok (.getfield 38, 3) := by decide +kernel
theorem dX6_doVialStep_105 : decode cX6_doVialStep 105 = .ok (.bipush 10, 2) := by decide +kernel
theorem dX6_doVialStep_107 : decode cX6_doVialStep 107 = .ok (.iload_n 2, 1) := by decide +kernel
theorem dX6_doVialStep_108 : decode cX6_doVialStep 108 = .ok (.iadd, 1) := by decide +kernel
theorem dX6_doVialStep_109 : decode cX6_doVialStep 109 = .ok (.invokevirtual 174, 3) := by decide +kernel
theorem dX6_doVialStep_112 : decode cX6_doVialStep 112 = .ok (.areturn, 1) := by decide +kernel
theorem dX6_doVialStep_113 : decode cX6_doVialStep 113 = .ok (.aload_n 0, 1) := by decide +kernel
theorem dX6_doVialStep_114 : decode cX6_doVialStep 114 = .ok (.getfield 9, 3) := by decide +kernel
theorem dX6_doVialStep_117 : decode cX6_doVialStep 117 = .ok (.iload_n 3, 1) := by decide +kernel
theorem dX6_doVialStep_118 : decode cX6_doVialStep 118 = .ok (.iaload, 1) := by decide +kernel
theorem dX6_doVialStep_119 : decode cX6_doVialStep 119 = .ok (.iload_n 2, 1) := by decide +kernel
theorem dX6_doVialStep_120 : decode cX6_doVialStep 120 = .ok (.if_icmp .ge 9, 3) := by decide +kernel
theorem dX6_doVialStep_123 : decode cX6_doVialStep 123 = .ok (.getstatic 155, 3) := by decide +kernel
theorem dX6_doVialStep_126 : decode cX6_doVialStep 126 = .ok (.goto 6, 3) := by decide +kernel
theorem dX6_doVialStep_129 : decode cX6_doVialStep 129 = .ok (.getstatic 145, 3) := by decide +kernel
theorem dX6_doVialStep_132 : decode cX6_doVialStep 132 = .ok (.areturn, 1) := by decide +kernel
theorem dX6_doVialStep_133 : decode cX6_doVialStep 133 = .ok (.iload 4, 2) := by decide +kernel
theorem dX6_doVialStep_135 : decode cX6_doVialStep 135 = .ok (.iload_n 2, 1) := by decide +kernel
theorem dX6_doVialStep_136 : decode cX6_doVialStep 136 = .ok (.if_icmp .ge 9, 3) := by decide +kernel
theorem dX6_doVialStep_139 : decode cX6_doVialStep 139 = .ok (.getstatic 198, 3) := by decide +kernel
theorem dX6_doVialStep_142 : decode cX6_doVialStep 142 = .ok (.goto 6, 3) := by decide +kernel
theorem dX6_doVialStep_145 : decode cX6_doVialStep 145 = .ok (.getstatic 145, 3) := by decide +kernel
theorem dX6_doVialStep_148 : decode cX6_doVialStep 148 = .ok (.areturn, 1) := by decide +kernel
theorem dX6_doVialStep_149 : decode cX6_doVialStep 149 = .ok (.getstatic 145, 3) := by decide +kernel
theorem dX6_doVialStep_152 : decode cX6_doVialStep 152 = .ok (.areturn, 1) := by decide +kernel
set_option maxRecDepth 20000 in
theorem ggX6_doBenchStep_X6_useTool : GoodIn wsX6_doBenchStep wsX6_useTool := goodIn_r _ [10, 4, 11, 12, 13, 3, 14, 15, 16, 17, 18, 19, 20, 21, 68, 69, 70, 71, 72, 73, 74, 75, 76, 77, 78, 79, 80, 81, 82, 83, 84] (by decide +kernel) (by decide +kernel)
set_option maxRecDepth 20000 in
theorem gX6_doBenchStep_X6_useTool : GoodIn wsX6_doBenchStep (wsV RX6 213 RX6 yX6_useTool wsX6_useTool) := goodIn_app (goodIn_of _ (by decide +kernel)) ggX6_doBenchStep_X6_useTool
set_option maxRecDepth 20000 in
theorem ggX6_doBenchStep_X6_gripTool : GoodIn wsX6_doBenchStep wsX6_gripTool := goodIn_r _ [25, 4, 11, 12, 26, 3, 14, 15, 16, 17, 18, 19, 20, 21, 68, 69, 70, 71, 72, 73, 74, 75, 76, 77, 78, 79, 80, 81, 82, 83, 84] (by decide +kernel) (by decide +kernel)
set_option maxRecDepth 20000 in
theorem gX6_doBenchStep_X6_gripTool : GoodIn wsX6_doBenchStep (wsV RX6 216 RX6 yX6_gripTool wsX6_gripTool) := goodIn_app (goodIn_of _ (by decide +kernel)) ggX6_doBenchStep_X6_gripTool
set_option maxRecDepth 20000 in
theorem ggX6_doBenchStep_X3_newRack : GoodIn wsX6_doBenchStep wsX3_newRack := goodIn_r _ [31, 32, 85, 86, 87, 88, 89, 90] (by decide +kernel) (by decide +kernel)
set_option maxRecDepth 20000 in
theorem gX6_doBenchStep_X3_newRack : GoodIn wsX6_doBenchStep (wsV RX6 219 RX3 yX3_newRack wsX3_newRack) := goodIn_app (goodIn_of _ (by decide +kernel)) ggX6_doBenchStep_X3_newRack
set_option maxRecDepth 20000 in
theorem ggX6_doBenchStep_X1_fail : GoodIn wsX6_doBenchStep wsX1_fail := goodIn_r _ [18, 19, 20, 21, 78, 79, 80, 81, 82, 83, 84] (by decide +kernel) (by decide +kernel)
set_option maxRecDepth 20000 in
theorem gX6_doBenchStep_X1_fail : GoodIn wsX6_doBenchStep (wsV RX6 174 RX1 yX1_fail wsX1_fail) := goodIn_app (goodIn_of _ (by decide +kernel)) ggX6_doBenchStep_X1_fail
set_option maxRecDepth 20000 in
theorem ggX6_doBenchStep_X3_newBox : GoodIn wsX6_doBenchStep wsX3_newBox := goodIn_r _ [36, 37, 38, 39, 85, 86, 87, 88, 89, 90] (by decide +kernel) (by decide +kernel)
set_option maxRecDepth 20000 in
theorem gX6_doBenchStep_X3_newBox : GoodIn wsX6_doBenchStep (wsV RX6 223 RX3 yX3_newBox wsX3_newBox) := goodIn_app (goodIn_of _ (by decide +kernel)) ggX6_doBenchStep_X3_newBox
set_option maxRecDepth 20000 in
theorem ggX6_doBenchStep_X3_newGrid : GoodIn wsX6_doBenchStep wsX3_newGrid := goodIn_r _ [43, 44, 45, 85, 86, 87, 88, 89, 90] (by decide +kernel) (by decide +kernel)
set_option maxRecDepth 20000 in
theorem gX6_doBenchStep_X3_newGrid : GoodIn wsX6_doBenchStep (wsV RX6 227 RX3 yX3_newGrid wsX3_newGrid) := goodIn_app (goodIn_of _ (by decide +kernel)) ggX6_doBenchStep_X3_newGrid
set_option maxRecDepth 20000 in
theorem ggX6_doBenchStep_X6_putTool : GoodIn wsX6_doBenchStep wsX6_putTool := goodIn_r _ [49, 4, 2, 50, 11, 12, 51, 3, 14, 15, 16, 17, 18, 19, 20, 21, 52, 53, 54, 30, 55, 39, 68, 69, 70, 71, 72, 73, 74, 85, 86, 87, 88, 89, 90, 75, 76, 77, 78, 79, 80, 81, 82, 83, 84] (by decide +kernel) (by decide +kernel)
set_option maxRecDepth 20000 in
theorem gX6_doBenchStep_X6_putTool : GoodIn wsX6_doBenchStep (wsV RX6 230 RX6 yX6_putTool wsX6_putTool) := goodIn_app (goodIn_of _ (by decide +kernel)) ggX6_doBenchStep_X6_putTool
set_option maxRecDepth 20000 in
theorem ggX6_doBenchStep_X3_sizeOf : GoodIn wsX6_doBenchStep wsX3_sizeOf := goodIn_r _ [59, 32, 38, 44, 45, 85, 86, 87, 88, 89, 90] (by decide +kernel) (by decide +kernel)
set_option maxRecDepth 20000 in
theorem gX6_doBenchStep_X3_sizeOf : GoodIn wsX6_doBenchStep (wsV RX6 89 RX3 yX3_sizeOf wsX3_sizeOf) := goodIn_app (goodIn_of _ (by decide +kernel)) ggX6_doBenchStep_X3_sizeOf
set_option maxRecDepth 20000 in
theorem ggX6_doBenchStep_X6_addDrops : GoodIn wsX6_doBenchStep wsX6_addDrops := goodIn_r _ [63, 1, 4, 3, 14, 15, 16, 17, 18, 19, 20, 21, 68, 69, 70, 71, 72, 73, 74, 78, 79, 80, 81, 82, 83, 84] (by decide +kernel) (by decide +kernel)
set_option maxRecDepth 20000 in
theorem gX6_doBenchStep_X6_addDrops : GoodIn wsX6_doBenchStep (wsV RX6 201 RX6 yX6_addDrops wsX6_addDrops) := goodIn_app (goodIn_of _ (by decide +kernel)) ggX6_doBenchStep_X6_addDrops
set_option maxRecDepth 20000 in
theorem ggX6_doBenchStep_X1_failAsLaid : GoodIn wsX6_doBenchStep wsX1_failAsLaid := goodIn_r _ [67, 19, 20, 21, 78, 79, 80, 81, 82, 83, 84] (by decide +kernel) (by decide +kernel)
set_option maxRecDepth 20000 in
theorem gX6_doBenchStep_X1_failAsLaid : GoodIn wsX6_doBenchStep (wsV RX6 233 RX1 yX1_failAsLaid wsX1_failAsLaid) := goodIn_app (goodIn_of _ (by decide +kernel)) ggX6_doBenchStep_X1_failAsLaid
theorem dX6_doBenchStep_0 : decode cX6_doBenchStep 0 = .ok (.iload_n 1, 1) := by decide +kernel
theorem dX6_doBenchStep_1 : decode cX6_doBenchStep 1 = .ok (.tableswitch 252 10 17 #[47, 53, 65, 95, 129, 167, 180, 218], 47) := by decide +kernel
theorem dX6_doBenchStep_48 : decode cX6_doBenchStep 48 = .ok (.aload_n 0, 1) := by decide +kernel
theorem dX6_doBenchStep_49 : decode cX6_doBenchStep 49 = .ok (.iload_n 2, 1) := by decide +kernel
theorem dX6_doBenchStep_50 : decode cX6_doBenchStep 50 = .ok (.invokevirtual 213, 3) := by decide +kernel
theorem dX6_doBenchStep_53 : decode cX6_doBenchStep 53 = .ok (.areturn, 1) := by decide +kernel
theorem dX6_doBenchStep_54 : decode cX6_doBenchStep 54 = .ok (.aload_n 0, 1) := by decide +kernel
theorem dX6_doBenchStep_55 : decode cX6_doBenchStep 55 = .ok (.iload_n 2, 1) := by decide +kernel
theorem dX6_doBenchStep_56 : decode cX6_doBenchStep 56 = .ok (.aload_n 0, 1) := by decide +kernel
theorem dX6_doBenchStep_57 : decode cX6_doBenchStep 57 = .ok (.getfield 9, 3) := by decide +kernel
theorem dX6_doBenchStep_60 : decode cX6_doBenchStep 60 = .ok (.iload_n 3, 1) := by decide +kernel
theorem dX6_doBenchStep_61 : decode cX6_doBenchStep 61 = .ok (.iaload, 1) := by decide +kernel
theorem dX6_doBenchStep_62 : decode cX6_doBenchStep 62 = .ok (.invokevirtual 216, 3) := by decide +kernel
theorem dX6_doBenchStep_65 : decode cX6_doBenchStep 65 = .ok (.areturn, 1) := by decide +kernel
theorem dX6_doBenchStep_66 : decode cX6_doBenchStep 66 = .ok (.aload_n 0, 1) := by decide +kernel
theorem dX6_doBenchStep_67 : decode cX6_doBenchStep 67 = .ok (.getfield 31, 3) := by decide +kernel
theorem dX6_doBenchStep_70 : decode cX6_doBenchStep 70 = .ok (.iload_n 2, 1) := by decide +kernel
theorem dX6_doBenchStep_71 : decode cX6_doBenchStep 71 = .ok (.bipush 10, 2) := by decide +kernel
theorem dX6_doBenchStep_73 : decode cX6_doBenchStep 73 = .ok (.isub, 1) := by decide +kernel
theorem dX6_doBenchStep_74 : decode cX6_doBenchStep 74 = .ok (.invokevirtual 219, 3) := by decide +kernel
theorem dX6_doBenchStep_77 : decode cX6_doBenchStep 77 = .ok (.ifCond .eq 9, 3) := by decide +kernel
theorem dX6_doBenchStep_80 : decode cX6_doBenchStep 80 = .ok (.getstatic 145, 3) := by decide +kernel
theorem dX6_doBenchStep_83 : decode cX6_doBenchStep 83 = .ok (.goto 12, 3) := by decide +kernel
theorem dX6_doBenchStep_86 : decode cX6_doBenchStep 86 = .ok (.aload_n 0, 1) := by decide +kernel
theorem dX6_doBenchStep_87 : decode cX6_doBenchStep 87 = .ok (.getfield 38, 3) := by decide +kernel
theorem dX6_doBenchStep_90 : decode cX6_doBenchStep 90 = .ok (.bipush 6, 2) := by decide +kernel
theorem dX6_doBenchStep_92 : decode cX6_doBenchStep 92 = .ok (.invokevirtual 174, 3) := by decide +kernel
theorem dX6_doBenchStep_95 : decode cX6_doBenchStep 95 = .ok (.areturn, 1) := by decide +kernel
theorem dX6_doBenchStep_96 : decode cX6_doBenchStep 96 = .ok (.aload_n 0, 1) := by decide +kernel
theorem dX6_doBenchStep_97 : decode cX6_doBenchStep 97 = .ok (.getfield 31, 3) := by decide +kernel
theorem dX6_doBenchStep_100 : decode cX6_doBenchStep 100 = .ok (.iload_n 2, 1) := by decide +kernel
theorem dX6_doBenchStep_101 : decode cX6_doBenchStep 101 = .ok (.iconst 3, 1) := by decide +kernel
theorem dX6_doBenchStep_102 : decode cX6_doBenchStep 102 = .ok (.idiv, 1) := by decide +kernel
theorem dX6_doBenchStep_103 : decode cX6_doBenchStep 103 = .ok (.iconst 2, 1) := by decide +kernel
theorem dX6_doBenchStep_104 : decode cX6_doBenchStep 104 = .ok (.isub, 1) := by decide +kernel
theorem dX6_doBenchStep_105 : decode cX6_doBenchStep 105 = .ok (.iload_n 2, 1) := by decide +kernel
theorem dX6_doBenchStep_106 : decode cX6_doBenchStep 106 = .ok (.iconst 3, 1) := by decide +kernel
theorem dX6_doBenchStep_107 : decode cX6_doBenchStep 107 = .ok (.irem, 1) := by decide +kernel
theorem dX6_doBenchStep_108 : decode cX6_doBenchStep 108 = .ok (.invokevirtual 223, 3) := by decide +kernel
theorem dX6_doBenchStep_111 : decode cX6_doBenchStep 111 = .ok (.ifCond .eq 9, 3) := by decide +kernel
theorem dX6_doBenchStep_114 : decode cX6_doBenchStep 114 = .ok (.getstatic 145, 3) := by decide +kernel
theorem dX6_doBenchStep_117 : decode cX6_doBenchStep 117 = .ok (.goto 12, 3) := by decide +kernel
theorem dX6_doBenchStep_120 : decode cX6_doBenchStep 120 = .ok (.aload_n 0, 1) := by decide +kernel
theorem dX6_doBenchStep_121 : decode cX6_doBenchStep 121 = .ok (.getfield 38, 3) := by decide +kernel
theorem dX6_doBenchStep_124 : decode cX6_doBenchStep 124 = .ok (.bipush 6, 2) := by decide +kernel
theorem dX6_doBenchStep_126 : decode cX6_doBenchStep 126 = .ok (.invokevirtual 174, 3) := by decide +kernel
theorem dX6_doBenchStep_129 : decode cX6_doBenchStep 129 = .ok (.areturn, 1) := by decide +kernel
theorem dX6_doBenchStep_130 : decode cX6_doBenchStep 130 = .ok (.aload_n 0, 1) := by decide +kernel
theorem dX6_doBenchStep_131 : decode cX6_doBenchStep 131 = .ok (.getfield 31, 3) := by decide +kernel
theorem dX6_doBenchStep_134 : decode cX6_doBenchStep 134 = .ok (.iload_n 2, 1) := by decide +kernel
theorem dX6_doBenchStep_135 : decode cX6_doBenchStep 135 = .ok (.bipush 6, 2) := by decide +kernel
theorem dX6_doBenchStep_137 : decode cX6_doBenchStep 137 = .ok (.idiv, 1) := by decide +kernel
theorem dX6_doBenchStep_138 : decode cX6_doBenchStep 138 = .ok (.iconst 1, 1) := by decide +kernel
theorem dX6_doBenchStep_139 : decode cX6_doBenchStep 139 = .ok (.isub, 1) := by decide +kernel
theorem dX6_doBenchStep_140 : decode cX6_doBenchStep 140 = .ok (.iload_n 2, 1) := by decide +kernel
theorem dX6_doBenchStep_141 : decode cX6_doBenchStep 141 = .ok (.bipush 6, 2) := by decide +kernel
theorem dX6_doBenchStep_143 : decode cX6_doBenchStep 143 = .ok (.irem, 1) := by decide +kernel
theorem dX6_doBenchStep_144 : decode cX6_doBenchStep 144 = .ok (.iconst 1, 1) := by decide +kernel
theorem dX6_doBenchStep_145 : decode cX6_doBenchStep 145 = .ok (.isub, 1) := by decide +kernel
theorem dX6_doBenchStep_146 : decode cX6_doBenchStep 146 = .ok (.invokevirtual 227, 3) := by decide +kernel
theorem dX6_doBenchStep_149 : decode cX6_doBenchStep 149 = .ok (.ifCond .eq 9, 3) := by decide +kernel
theorem dX6_doBenchStep_152 : decode cX6_doBenchStep 152 = .ok (.getstatic 145, 3) := by decide +kernel
theorem dX6_doBenchStep_155 : decode cX6_doBenchStep 155 = .ok (.goto 12, 3) := by decide +kernel
theorem dX6_doBenchStep_158 : decode cX6_doBenchStep 158 = .ok (.aload_n 0, 1) := by decide +kernel
theorem dX6_doBenchStep_159 : decode cX6_doBenchStep 159 = .ok (.getfield 38, 3) := by decide +kernel
theorem dX6_doBenchStep_162 : decode cX6_doBenchStep 162 = .ok (.bipush 6, 2) := by decide +kernel
theorem dX6_doBenchStep_164 : decode cX6_doBenchStep 164 = .ok (.invokevirtual 174, 3) := by decide +kernel
theorem dX6_doBenchStep_167 : decode cX6_doBenchStep 167 = .ok (.areturn, 1) := by decide +kernel
theorem dX6_doBenchStep_168 : decode cX6_doBenchStep 168 = .ok (.aload_n 0, 1) := by decide +kernel
theorem dX6_doBenchStep_169 : decode cX6_doBenchStep 169 = .ok (.iload_n 2, 1) := by decide +kernel
theorem dX6_doBenchStep_170 : decode cX6_doBenchStep 170 = .ok (.bipush 10, 2) := by decide +kernel
theorem dX6_doBenchStep_172 : decode cX6_doBenchStep 172 = .ok (.irem, 1) := by decide +kernel
theorem dX6_doBenchStep_173 : decode cX6_doBenchStep 173 = .ok (.iload_n 2, 1) := by decide +kernel
theorem dX6_doBenchStep_174 : decode cX6_doBenchStep 174 = .ok (.bipush 10, 2) := by decide +kernel
theorem dX6_doBenchStep_176 : decode cX6_doBenchStep 176 = .ok (.idiv, 1) := by decide +kernel
theorem dX6_doBenchStep_177 : decode cX6_doBenchStep 177 = .ok (.invokevirtual 230, 3) := by decide +kernel
theorem dX6_doBenchStep_180 : decode cX6_doBenchStep 180 = .ok (.areturn, 1) := by decide +kernel
theorem dX6_doBenchStep_181 : decode cX6_doBenchStep 181 = .ok (.aload_n 0, 1) := by decide +kernel
theorem dX6_doBenchStep_182 : decode cX6_doBenchStep 182 = .ok (.getfield 31, 3) := by decide +kernel
theorem dX6_doBenchStep_185 : decode cX6_doBenchStep 185 = .ok (.iload_n 2, 1) := by decide +kernel
theorem dX6_doBenchStep_186 : decode cX6_doBenchStep 186 = .ok (.invokevirtual 89, 3) := by decide +kernel
theorem dX6_doBenchStep_189 : decode cX6_doBenchStep 189 = .ok (.bipush (-4), 2) := by decide +kernel
theorem dX6_doBenchStep_191 : decode cX6_doBenchStep 191 = .ok (.if_icmp .ne 14, 3) := by decide +kernel
theorem dX6_doBenchStep_194 : decode cX6_doBenchStep 194 = .ok (.aload_n 0, 1) := by decide +kernel
theorem dX6_doBenchStep_195 : decode cX6_doBenchStep 195 = .ok (.getfield 38, 3) := by decide +kernel
theorem dX6_doBenchStep_198 : decode cX6_doBenchStep 198 = .ok (.iconst 5, 1) := by decide +kernel
theorem dX6_doBenchStep_199 : decode cX6_doBenchStep 199 = .ok (.invokevirtual 174, 3) := by decide +kernel
theorem dX6_doBenchStep_202 : decode cX6_doBenchStep 202 = .ok (.goto 16, 3) := by decide +kernel
theorem dX6_doBenchStep_205 : decode cX6_doBenchStep 205 = .ok (.aload_n 0, 1) := by decide +kernel
theorem dX6_doBenchStep_206 : decode cX6_doBenchStep 206 = .ok (.iload_n 3, 1) := by decide +kernel
theorem dX6_doBenchStep_207 : decode cX6_doBenchStep 207 = .ok (.aload_n 0, 1) := by decide +kernel
theorem dX6_doBenchStep_208 : decode cX6_doBenchStep 208 = .ok (.getfield 31, 3) := by decide +kernel
theorem dX6_doBenchStep_211 : decode cX6_doBenchStep 211 = .ok (.iload_n 2, 1) := by decide +kernel
theorem dX6_doBenchStep_212 : decode cX6_doBenchStep 212 = .ok (.invokevirtual 89, 3) := by decide +kernel
theorem dX6_doBenchStep_215 : decode cX6_doBenchStep 215 = .ok (.invokevirtual 201, 3) := by decide +kernel
theorem dX6_doBenchStep_218 : decode cX6_doBenchStep 218 = .ok (.areturn, 1) := by decide +kernel
theorem dX6_doBenchStep_219 : decode cX6_doBenchStep 219 = .ok (.aload_n 0, 1) := by decide +kernel
theorem dX6_doBenchStep_220 : decode cX6_doBenchStep 220 = .ok (.getfield 25, 3) := by decide +kernel
theorem dX6_doBenchStep_223 : decode cX6_doBenchStep 223 = .ok (.iload_n 2, 1) := by decide +kernel
theorem dX6_doBenchStep_224 : decode cX6_doBenchStep 224 = .ok (.iaload, 1) := by decide +kernel
theorem dX6_doBenchStep_225 : decode cX6_doBenchStep 225 = .ok (.ifCond .ne 14, 3) := by decide +kernel
theorem dX6_doBenchStep_228 : decode cX6_doBenchStep 228 = .ok (.aload_n 0, 1) := by decide +kernel
theorem dX6_doBenchStep_229 : decode cX6_doBenchStep 229 = .ok (.getfield 38, 3) := by decide +kernel
theorem dX6_doBenchStep_232 : decode cX6_doBenchStep 232 = .ok (.iconst 5, 1) := by decide +kernel
theorem dX6_doBenchStep_233 : decode cX6_doBenchStep 233 = .ok (.invokevirtual 174, 3) := by decide +kernel
theorem dX6_doBenchStep_236 : decode cX6_doBenchStep 236 = .ok (.goto 16, 3) := by decide +kernel
theorem dX6_doBenchStep_239 : decode cX6_doBenchStep 239 = .ok (.aload_n 0, 1) := by decide +kernel
theorem dX6_doBenchStep_240 : decode cX6_doBenchStep 240 = .ok (.getfield 38, 3) := by decide +kernel
theorem dX6_doBenchStep_243 : decode cX6_doBenchStep 243 = .ok (.aload_n 0, 1) := by decide +kernel
theorem dX6_doBenchStep_244 : decode cX6_doBenchStep 244 = .ok (.getfield 25, 3) := by decide +kernel
theorem dX6_doBenchStep_247 : decode cX6_doBenchStep 247 = .ok (.iload_n 2, 1) := by decide +kernel
theorem dX6_doBenchStep_248 : decode cX6_doBenchStep 248 = .ok (.iaload, 1) := by decide +kernel
theorem dX6_doBenchStep_249 : decode cX6_doBenchStep 249 = .ok (.invokevirtual 233, 3) := by decide +kernel
theorem dX6_doBenchStep_252 : decode cX6_doBenchStep 252 = .ok (.areturn, 1) := by decide +kernel
theorem dX6_doBenchStep_253 : decode cX6_doBenchStep 253 = .ok (.getstatic 145, 3) := by decide +kernel
theorem dX6_doBenchStep_256 : decode cX6_doBenchStep 256 = .ok (.areturn, 1) := by decide +kernel
set_option maxRecDepth 20000 in
theorem ggX6_addDrops_X1_fail : GoodIn wsX6_addDrops wsX1_fail := goodIn_r _ [8, 9, 10, 11, 19, 20, 21, 22, 23, 24, 25] (by decide +kernel) (by decide +kernel)
set_option maxRecDepth 20000 in
theorem gX6_addDrops_X1_fail : GoodIn wsX6_addDrops (wsV RX6 174 RX1 yX1_fail wsX1_fail) := goodIn_app (goodIn_of _ (by decide +kernel)) ggX6_addDrops_X1_fail
theorem dX6_addDrops_0 : decode cX6_addDrops 0 = .ok (.aload_n 0, 1) := by decide +kernel
theorem dX6_addDrops_1 : decode cX6_addDrops 1 = .ok (.getfield 9, 3) := by decide +kernel
theorem dX6_addDrops_4 : decode cX6_addDrops 4 = .ok (.iload_n 1, 1) := by decide +kernel
theorem dX6_addDrops_5 : decode cX6_addDrops 5 = .ok (.iaload, 1) := by decide +kernel
theorem dX6_addDrops_6 : decode cX6_addDrops 6 = .ok (.iload_n 2, 1) := by decide +kernel
theorem dX6_addDrops_7 : decode cX6_addDrops 7 = .ok (.iadd, 1) := by decide +kernel
theorem dX6_addDrops_8 : decode cX6_addDrops 8 = .ok (.sipush 1000, 3) := by decide +kernel
theorem dX6_addDrops_11 : decode cX6_addDrops 11 = .ok (.if_icmp .le 12, 3) := by decide +kernel
theorem dX6_addDrops_14 : decode cX6_addDrops 14 = .ok (.aload_n 0, 1) := by decide +kernel
theorem dX6_addDrops_15 : decode cX6_addDrops 15 = .ok (.getfield 38, 3) := by decide +kernel
theorem dX6_addDrops_18 : decode cX6_addDrops 18 = .ok (.iconst 1, 1) := by decide +kernel
theorem dX6_addDrops_19 : decode cX6_addDrops 19 = .ok (.invokevirtual 174, 3) := by decide +kernel
theorem dX6_addDrops_22 : decode cX6_addDrops 22 = .ok (.areturn, 1) := by decide +kernel
theorem dX6_addDrops_23 : decode cX6_addDrops 23 = .ok (.aload_n 0, 1) := by decide +kernel
theorem dX6_addDrops_24 : decode cX6_addDrops 24 = .ok (.getfield 9, 3) := by decide +kernel
theorem dX6_addDrops_27 : decode cX6_addDrops 27 = .ok (.iload_n 1, 1) := by decide +kernel
theorem dX6_addDrops_28 : decode cX6_addDrops 28 = .ok (.dup2, 1) := by decide +kernel
theorem dX6_addDrops_29 : decode cX6_addDrops 29 = .ok (.iaload, 1) := by decide +kernel
theorem dX6_addDrops_30 : decode cX6_addDrops 30 = .ok (.iload_n 2, 1) := by decide +kernel
theorem dX6_addDrops_31 : decode cX6_addDrops 31 = .ok (.iadd, 1) := by decide +kernel
theorem dX6_addDrops_32 : decode cX6_addDrops 32 = .ok (.iastore, 1) := by decide +kernel
theorem dX6_addDrops_33 : decode cX6_addDrops 33 = .ok (.getstatic 145, 3) := by decide +kernel
theorem dX6_addDrops_36 : decode cX6_addDrops 36 = .ok (.areturn, 1) := by decide +kernel
set_option maxRecDepth 20000 in
theorem ggX6_drawDrops_X1_fail : GoodIn wsX6_drawDrops wsX1_fail := goodIn_r _ [8, 9, 10, 11, 19, 20, 21, 22, 23, 24, 25] (by decide +kernel) (by decide +kernel)
set_option maxRecDepth 20000 in
theorem gX6_drawDrops_X1_fail : GoodIn wsX6_drawDrops (wsV RX6 174 RX1 yX1_fail wsX1_fail) := goodIn_app (goodIn_of _ (by decide +kernel)) ggX6_drawDrops_X1_fail
theorem dX6_drawDrops_0 : decode cX6_drawDrops 0 = .ok (.aload_n 0, 1) := by decide +kernel
theorem dX6_drawDrops_1 : decode cX6_drawDrops 1 = .ok (.getfield 9, 3) := by decide +kernel
theorem dX6_drawDrops_4 : decode cX6_drawDrops 4 = .ok (.iload_n 1, 1) := by decide +kernel
theorem dX6_drawDrops_5 : decode cX6_drawDrops 5 = .ok (.iaload, 1) := by decide +kernel
theorem dX6_drawDrops_6 : decode cX6_drawDrops 6 = .ok (.iload_n 2, 1) := by decide +kernel
theorem dX6_drawDrops_7 : decode cX6_drawDrops 7 = .ok (.if_icmp .ge 12, 3) := by decide +kernel
theorem dX6_drawDrops_10 : decode cX6_drawDrops 10 = .ok (.aload_n 0, 1) := by decide +kernel
theorem dX6_drawDrops_11 : decode cX6_drawDrops 11 = .ok (.getfield 38, 3) := by decide +kernel
theorem dX6_drawDrops_14 : decode cX6_drawDrops 14 = .ok (.iconst 2, 1) := by decide +kernel
theorem dX6_drawDrops_15 : decode cX6_drawDrops 15 = .ok (.invokevirtual 174, 3) := by decide +kernel
theorem dX6_drawDrops_18 : decode cX6_drawDrops 18 = .ok (.areturn, 1) := by decide +kernel
theorem dX6_drawDrops_19 : decode cX6_drawDrops 19 = .ok (.aload_n 0, 1) := by decide +kernel
theorem dX6_drawDrops_20 : decode cX6_drawDrops 20 = .ok (.getfield 9, 3) := by decide +kernel
theorem dX6_drawDrops_23 : decode cX6_drawDrops 23 = .ok (.iload_n 1, 1) := by decide +kernel
theorem dX6_drawDrops_24 : decode cX6_drawDrops 24 = .ok (.dup2, 1) := by decide +kernel
theorem dX6_drawDrops_25 : decode cX6_drawDrops 25 = .ok (.iaload, 1) := by decide +kernel
theorem dX6_drawDrops_26 : decode cX6_drawDrops 26 = .ok (.iload_n 2, 1) := by decide +kernel
theorem dX6_drawDrops_27 : decode cX6_drawDrops 27 = .ok (.isub, 1) := by decide +kernel
theorem dX6_drawDrops_28 : decode cX6_drawDrops 28 = .ok (.iastore, 1) := by decide +kernel
theorem dX6_drawDrops_29 : decode cX6_drawDrops 29 = .ok (.getstatic 145, 3) := by decide +kernel
theorem dX6_drawDrops_32 : decode cX6_drawDrops 32 = .ok (.areturn, 1) := by decide +kernel
set_option maxRecDepth 20000 in
theorem ggX6_shareDrops_X1_fail : GoodIn wsX6_shareDrops wsX1_fail := goodIn_r _ [8, 9, 10, 11, 19, 20, 21, 22, 23, 24, 25] (by decide +kernel) (by decide +kernel)
set_option maxRecDepth 20000 in
theorem gX6_shareDrops_X1_fail : GoodIn wsX6_shareDrops (wsV RX6 174 RX1 yX1_fail wsX1_fail) := goodIn_app (goodIn_of _ (by decide +kernel)) ggX6_shareDrops_X1_fail
theorem dX6_shareDrops_0 : decode cX6_shareDrops 0 = .ok (.iload_n 2, 1) := by decide +kernel
theorem dX6_shareDrops_1 : decode cX6_shareDrops 1 = .ok (.ifCond .ne 12, 3) := by decide +kernel
theorem dX6_shareDrops_4 : decode cX6_shareDrops 4 = .ok (.aload_n 0, 1) := by decide +kernel
theorem dX6_shareDrops_5 : decode cX6_shareDrops 5 = .ok (.getfield 38, 3) := by decide +kernel
theorem dX6_shareDrops_8 : decode cX6_shareDrops 8 = .ok (.iconst 3, 1) := by decide +kernel
theorem dX6_shareDrops_9 : decode cX6_shareDrops 9 = .ok (.invokevirtual 174, 3) := by decide +kernel
theorem dX6_shareDrops_12 : decode cX6_shareDrops 12 = .ok (.areturn, 1) := by decide +kernel
theorem dX6_shareDrops_13 : decode cX6_shareDrops 13 = .ok (.aload_n 0, 1) := by decide +kernel
theorem dX6_shareDrops_14 : decode cX6_shareDrops 14 = .ok (.getfield 9, 3) := by decide +kernel
theorem dX6_shareDrops_17 : decode cX6_shareDrops 17 = .ok (.iload_n 1, 1) := by decide +kernel
theorem dX6_shareDrops_18 : decode cX6_shareDrops 18 = .ok (.dup2, 1) := by decide +kernel
theorem dX6_shareDrops_19 : decode cX6_shareDrops 19 = .ok (.iaload, 1) := by decide +kernel
theorem dX6_shareDrops_20 : decode cX6_shareDrops 20 = .ok (.iload_n 2, 1) := by decide +kernel
theorem dX6_shareDrops_21 : decode cX6_shareDrops 21 = .ok (.idiv, 1) := by decide +kernel
theorem dX6_shareDrops_22 : decode cX6_shareDrops 22 = .ok (.iastore, 1) := by decide +kernel
theorem dX6_shareDrops_23 : decode cX6_shareDrops 23 = .ok (.getstatic 145, 3) := by decide +kernel
theorem dX6_shareDrops_26 : decode cX6_shareDrops 26 = .ok (.areturn, 1) := by decide +kernel
set_option maxRecDepth 20000 in
theorem ggX6_pourDrops_X1_fail : GoodIn wsX6_pourDrops wsX1_fail := goodIn_r _ [8, 9, 10, 11, 19, 20, 21, 22, 23, 24, 25] (by decide +kernel) (by decide +kernel)
set_option maxRecDepth 20000 in
theorem gX6_pourDrops_X1_fail : GoodIn wsX6_pourDrops (wsV RX6 174 RX1 yX1_fail wsX1_fail) := goodIn_app (goodIn_of _ (by decide +kernel)) ggX6_pourDrops_X1_fail
theorem dX6_pourDrops_0 : decode cX6_pourDrops 0 = .ok (.iload_n 2, 1) := by decide +kernel
theorem dX6_pourDrops_1 : decode cX6_pourDrops 1 = .ok (.bipush 8, 2) := by decide +kernel
theorem dX6_pourDrops_3 : decode cX6_pourDrops 3 = .ok (.if_icmp .lt 12, 3) := by decide +kernel
theorem dX6_pourDrops_6 : decode cX6_pourDrops 6 = .ok (.aload_n 0, 1) := by decide +kernel
theorem dX6_pourDrops_7 : decode cX6_pourDrops 7 = .ok (.getfield 38, 3) := by decide +kernel
theorem dX6_pourDrops_10 : decode cX6_pourDrops 10 = .ok (.iconst 4, 1) := by decide +kernel
theorem dX6_pourDrops_11 : decode cX6_pourDrops 11 = .ok (.invokevirtual 174, 3) := by decide +kernel
theorem dX6_pourDrops_14 : decode cX6_pourDrops 14 = .ok (.areturn, 1) := by decide +kernel
theorem dX6_pourDrops_15 : decode cX6_pourDrops 15 = .ok (.aload_n 0, 1) := by decide +kernel
theorem dX6_pourDrops_16 : decode cX6_pourDrops 16 = .ok (.getfield 9, 3) := by decide +kernel
theorem dX6_pourDrops_19 : decode cX6_pourDrops 19 = .ok (.iload_n 2, 1) := by decide +kernel
theorem dX6_pourDrops_20 : decode cX6_pourDrops 20 = .ok (.iaload, 1) := by decide +kernel
theorem dX6_pourDrops_21 : decode cX6_pourDrops 21 = .ok (.iconst (-1), 1) := by decide +kernel
theorem dX6_pourDrops_22 : decode cX6_pourDrops 22 = .ok (.if_icmp .ne 12, 3) := by decide +kernel
theorem dX6_pourDrops_25 : decode cX6_pourDrops 25 = .ok (.aload_n 0, 1) := by decide +kernel
theorem dX6_pourDrops_26 : decode cX6_pourDrops 26 = .ok (.getfield 38, 3) := by decide +kernel
theorem dX6_pourDrops_29 : decode cX6_pourDrops 29 = .ok (.iconst 5, 1) := by decide +kernel
theorem dX6_pourDrops_30 : decode cX6_pourDrops 30 = .ok (.invokevirtual 174, 3) := by decide +kernel
theorem dX6_pourDrops_33 : decode cX6_pourDrops 33 = .ok (.areturn, 1) := by decide +kernel
theorem dX6_pourDrops_34 : decode cX6_pourDrops 34 = .ok (.iload_n 2, 1) := by decide +kernel
theorem dX6_pourDrops_35 : decode cX6_pourDrops 35 = .ok (.iload_n 1, 1) := by decide +kernel
theorem dX6_pourDrops_36 : decode cX6_pourDrops 36 = .ok (.if_icmp .ne 7, 3) := by decide +kernel
theorem dX6_pourDrops_39 : decode cX6_pourDrops 39 = .ok (.getstatic 145, 3) := by decide +kernel
theorem dX6_pourDrops_42 : decode cX6_pourDrops 42 = .ok (.areturn, 1) := by decide +kernel
theorem dX6_pourDrops_43 : decode cX6_pourDrops 43 = .ok (.aload_n 0, 1) := by decide +kernel
theorem dX6_pourDrops_44 : decode cX6_pourDrops 44 = .ok (.getfield 9, 3) := by decide +kernel
theorem dX6_pourDrops_47 : decode cX6_pourDrops 47 = .ok (.iload_n 2, 1) := by decide +kernel
theorem dX6_pourDrops_48 : decode cX6_pourDrops 48 = .ok (.iaload, 1) := by decide +kernel
theorem dX6_pourDrops_49 : decode cX6_pourDrops 49 = .ok (.aload_n 0, 1) := by decide +kernel
theorem dX6_pourDrops_50 : decode cX6_pourDrops 50 = .ok (.getfield 9, 3) := by decide +kernel
theorem dX6_pourDrops_53 : decode cX6_pourDrops 53 = .ok (.iload_n 1, 1) := by decide +kernel
theorem dX6_pourDrops_54 : decode cX6_pourDrops 54 = .ok (.iaload, 1) := by decide +kernel
theorem dX6_pourDrops_55 : decode cX6_pourDrops 55 = .ok (.iadd, 1) := by decide +kernel
theorem dX6_pourDrops_56 : decode cX6_pourDrops 56 = .ok (.sipush 1000, 3) := by decide +kernel
theorem dX6_pourDrops_59 : decode cX6_pourDrops 59 = .ok (.if_icmp .le 12, 3) := by decide +kernel
theorem dX6_pourDrops_62 : decode cX6_pourDrops 62 = .ok (.aload_n 0, 1) := by decide +kernel
theorem dX6_pourDrops_63 : decode cX6_pourDrops 63 = .ok (.getfield 38, 3) := by decide +kernel
theorem dX6_pourDrops_66 : decode cX6_pourDrops 66 = .ok (.iconst 1, 1) := by decide +kernel
theorem dX6_pourDrops_67 : decode cX6_pourDrops 67 = .ok (.invokevirtual 174, 3) := by decide +kernel
theorem dX6_pourDrops_70 : decode cX6_pourDrops 70 = .ok (.areturn, 1) := by decide +kernel
theorem dX6_pourDrops_71 : decode cX6_pourDrops 71 = .ok (.aload_n 0, 1) := by decide +kernel
theorem dX6_pourDrops_72 : decode cX6_pourDrops 72 = .ok (.getfield 9, 3) := by decide +kernel
theorem dX6_pourDrops_75 : decode cX6_pourDrops 75 = .ok (.iload_n 2, 1) := by decide +kernel
theorem dX6_pourDrops_76 : decode cX6_pourDrops 76 = .ok (.dup2, 1) := by decide +kernel
theorem dX6_pourDrops_77 : decode cX6_pourDrops 77 = .ok (.iaload, 1) := by decide +kernel
theorem dX6_pourDrops_78 : decode cX6_pourDrops 78 = .ok (.aload_n 0, 1) := by decide +kernel
theorem dX6_pourDrops_79 : decode cX6_pourDrops 79 = .ok (.getfield 9, 3) := by decide +kernel
theorem dX6_pourDrops_82 : decode cX6_pourDrops 82 = .ok (.iload_n 1, 1) := by decide +kernel
theorem dX6_pourDrops_83 : decode cX6_pourDrops 83 = .ok (.iaload, 1) := by decide +kernel
theorem dX6_pourDrops_84 : decode cX6_pourDrops 84 = .ok (.iadd, 1) := by decide +kernel
theorem dX6_pourDrops_85 : decode cX6_pourDrops 85 = .ok (.iastore, 1) := by decide +kernel
theorem dX6_pourDrops_86 : decode cX6_pourDrops 86 = .ok (.aload_n 0, 1) := by decide +kernel
theorem dX6_pourDrops_87 : decode cX6_pourDrops 87 = .ok (.getfield 9, 3) := by decide +kernel
theorem dX6_pourDrops_90 : decode cX6_pourDrops 90 = .ok (.iload_n 1, 1) := by decide +kernel
theorem dX6_pourDrops_91 : decode cX6_pourDrops 91 = .ok (.iconst 0, 1) := by decide +kernel
theorem dX6_pourDrops_92 : decode cX6_pourDrops 92 = .ok (.iastore, 1) := by decide +kernel
theorem dX6_pourDrops_93 : decode cX6_pourDrops 93 = .ok (.getstatic 145, 3) := by decide +kernel
theorem dX6_pourDrops_96 : decode cX6_pourDrops 96 = .ok (.areturn, 1) := by decide +kernel
set_option maxRecDepth 20000 in
theorem ggX6_useTool_X1_fail : GoodIn wsX6_useTool wsX1_fail := goodIn_r _ [10, 11, 12, 13, 24, 25, 26, 27, 28, 29, 30] (by decide +kernel) (by decide +kernel)
set_option maxRecDepth 20000 in
theorem gX6_useTool_X1_fail : GoodIn wsX6_useTool (wsV RX6 174 RX1 yX1_fail wsX1_fail) := goodIn_app (goodIn_of _ (by decide +kernel)) ggX6_useTool_X1_fail
theorem dX6_useTool_0 : decode cX6_useTool 0 = .ok (.iload_n 1, 1) := by decide +kernel
theorem dX6_useTool_1 : decode cX6_useTool 1 = .ok (.bipush 6, 2) := by decide +kernel
theorem dX6_useTool_3 : decode cX6_useTool 3 = .ok (.if_icmp .lt 12, 3) := by decide +kernel
theorem dX6_useTool_6 : decode cX6_useTool 6 = .ok (.aload_n 0, 1) := by decide +kernel
theorem dX6_useTool_7 : decode cX6_useTool 7 = .ok (.getfield 38, 3) := by decide +kernel
theorem dX6_useTool_10 : decode cX6_useTool 10 = .ok (.iconst 4, 1) := by decide +kernel
theorem dX6_useTool_11 : decode cX6_useTool 11 = .ok (.invokevirtual 174, 3) := by decide +kernel
theorem dX6_useTool_14 : decode cX6_useTool 14 = .ok (.areturn, 1) := by decide +kernel
theorem dX6_useTool_15 : decode cX6_useTool 15 = .ok (.aload_n 0, 1) := by decide +kernel
theorem dX6_useTool_16 : decode cX6_useTool 16 = .ok (.getfield 21, 3) := by decide +kernel
theorem dX6_useTool_19 : decode cX6_useTool 19 = .ok (.iload_n 1, 1) := by decide +kernel
theorem dX6_useTool_20 : decode cX6_useTool 20 = .ok (.aaload, 1) := by decide +kernel
theorem dX6_useTool_21 : decode cX6_useTool 21 = .ok (.getfield 79, 3) := by decide +kernel
theorem dX6_useTool_24 : decode cX6_useTool 24 = .ok (.iconst (-1), 1) := by decide +kernel
theorem dX6_useTool_25 : decode cX6_useTool 25 = .ok (.if_icmp .ne 12, 3) := by decide +kernel
theorem dX6_useTool_28 : decode cX6_useTool 28 = .ok (.aload_n 0, 1) := by decide +kernel
theorem dX6_useTool_29 : decode cX6_useTool 29 = .ok (.getfield 38, 3) := by decide +kernel
theorem dX6_useTool_32 : decode cX6_useTool 32 = .ok (.iconst 5, 1) := by decide +kernel
theorem dX6_useTool_33 : decode cX6_useTool 33 = .ok (.invokevirtual 174, 3) := by decide +kernel
theorem dX6_useTool_36 : decode cX6_useTool 36 = .ok (.areturn, 1) := by decide +kernel
theorem dX6_useTool_37 : decode cX6_useTool 37 = .ok (.aload_n 0, 1) := by decide +kernel
theorem dX6_useTool_38 : decode cX6_useTool 38 = .ok (.getfield 21, 3) := by decide +kernel
theorem dX6_useTool_41 : decode cX6_useTool 41 = .ok (.iload_n 1, 1) := by decide +kernel
theorem dX6_useTool_42 : decode cX6_useTool 42 = .ok (.aaload, 1) := by decide +kernel
theorem dX6_useTool_43 : decode cX6_useTool 43 = .ok (.dup, 1) := by decide +kernel
theorem dX6_useTool_44 : decode cX6_useTool 44 = .ok (.getfield 86, 3) := by decide +kernel
theorem dX6_useTool_47 : decode cX6_useTool 47 = .ok (.iconst 1, 1) := by decide +kernel
theorem dX6_useTool_48 : decode cX6_useTool 48 = .ok (.iadd, 1) := by decide +kernel
theorem dX6_useTool_49 : decode cX6_useTool 49 = .ok (.putfield 86, 3) := by decide +kernel
theorem dX6_useTool_52 : decode cX6_useTool 52 = .ok (.getstatic 145, 3) := by decide +kernel
theorem dX6_useTool_55 : decode cX6_useTool 55 = .ok (.areturn, 1) := by decide +kernel
set_option maxRecDepth 20000 in
theorem ggX6_gripTool_X1_fail : GoodIn wsX6_gripTool wsX1_fail := goodIn_r _ [10, 11, 12, 13, 24, 25, 26, 27, 28, 29, 30] (by decide +kernel) (by decide +kernel)
set_option maxRecDepth 20000 in
theorem gX6_gripTool_X1_fail : GoodIn wsX6_gripTool (wsV RX6 174 RX1 yX1_fail wsX1_fail) := goodIn_app (goodIn_of _ (by decide +kernel)) ggX6_gripTool_X1_fail
theorem dX6_gripTool_0 : decode cX6_gripTool 0 = .ok (.iload_n 1, 1) := by decide +kernel
theorem dX6_gripTool_1 : decode cX6_gripTool 1 = .ok (.bipush 6, 2) := by decide +kernel
theorem dX6_gripTool_3 : decode cX6_gripTool 3 = .ok (.if_icmp .lt 12, 3) := by decide +kernel
theorem dX6_gripTool_6 : decode cX6_gripTool 6 = .ok (.aload_n 0, 1) := by decide +kernel
theorem dX6_gripTool_7 : decode cX6_gripTool 7 = .ok (.getfield 38, 3) := by decide +kernel
theorem dX6_gripTool_10 : decode cX6_gripTool 10 = .ok (.iconst 4, 1) := by decide +kernel
theorem dX6_gripTool_11 : decode cX6_gripTool 11 = .ok (.invokevirtual 174, 3) := by decide +kernel
theorem dX6_gripTool_14 : decode cX6_gripTool 14 = .ok (.areturn, 1) := by decide +kernel
theorem dX6_gripTool_15 : decode cX6_gripTool 15 = .ok (.aload_n 0, 1) := by decide +kernel
theorem dX6_gripTool_16 : decode cX6_gripTool 16 = .ok (.getfield 21, 3) := by decide +kernel
theorem dX6_gripTool_19 : decode cX6_gripTool 19 = .ok (.iload_n 1, 1) := by decide +kernel
theorem dX6_gripTool_20 : decode cX6_gripTool 20 = .ok (.aaload, 1) := by decide +kernel
theorem dX6_gripTool_21 : decode cX6_gripTool 21 = .ok (.getfield 79, 3) := by decide +kernel
theorem dX6_gripTool_24 : decode cX6_gripTool 24 = .ok (.iconst 1, 1) := by decide +kernel
theorem dX6_gripTool_25 : decode cX6_gripTool 25 = .ok (.if_icmp .ne 13, 3) := by decide +kernel
theorem dX6_gripTool_28 : decode cX6_gripTool 28 = .ok (.aload_n 0, 1) := by decide +kernel
theorem dX6_gripTool_29 : decode cX6_gripTool 29 = .ok (.getfield 38, 3) := by decide +kernel
theorem dX6_gripTool_32 : decode cX6_gripTool 32 = .ok (.bipush 7, 2) := by decide +kernel
theorem dX6_gripTool_34 : decode cX6_gripTool 34 = .ok (.invokevirtual 174, 3) := by decide +kernel
theorem dX6_gripTool_37 : decode cX6_gripTool 37 = .ok (.areturn, 1) := by decide +kernel
theorem dX6_gripTool_38 : decode cX6_gripTool 38 = .ok (.aload_n 0, 1) := by decide +kernel
theorem dX6_gripTool_39 : decode cX6_gripTool 39 = .ok (.getfield 21, 3) := by decide +kernel
theorem dX6_gripTool_42 : decode cX6_gripTool 42 = .ok (.iload_n 1, 1) := by decide +kernel
theorem dX6_gripTool_43 : decode cX6_gripTool 43 = .ok (.aaload, 1) := by decide +kernel
theorem dX6_gripTool_44 : decode cX6_gripTool 44 = .ok (.getfield 79, 3) := by decide +kernel
theorem dX6_gripTool_47 : decode cX6_gripTool 47 = .ok (.iconst (-1), 1) := by decide +kernel
theorem dX6_gripTool_48 : decode cX6_gripTool 48 = .ok (.if_icmp .ne 12, 3) := by decide +kernel
theorem dX6_gripTool_51 : decode cX6_gripTool 51 = .ok (.aload_n 0, 1) := by decide +kernel
theorem dX6_gripTool_52 : decode cX6_gripTool 52 = .ok (.getfield 38, 3) := by decide +kernel
theorem dX6_gripTool_55 : decode cX6_gripTool 55 = .ok (.iconst 5, 1) := by decide +kernel
theorem dX6_gripTool_56 : decode cX6_gripTool 56 = .ok (.invokevirtual 174, 3) := by decide +kernel
theorem dX6_gripTool_59 : decode cX6_gripTool 59 = .ok (.areturn, 1) := by decide +kernel
theorem dX6_gripTool_60 : decode cX6_gripTool 60 = .ok (.aload_n 0, 1) := by decide +kernel
theorem dX6_gripTool_61 : decode cX6_gripTool 61 = .ok (.getfield 21, 3) := by decide +kernel
theorem dX6_gripTool_64 : decode cX6_gripTool 64 = .ok (.iload_n 1, 1) := by decide +kernel
theorem dX6_gripTool_65 : decode cX6_gripTool 65 = .ok (.aaload, 1) := by decide +kernel
theorem dX6_gripTool_66 : decode cX6_gripTool 66 = .ok (.dup, 1) := by decide +kernel
theorem dX6_gripTool_67 : decode cX6_gripTool 67 = .ok (.getfield 83, 3) := by decide +kernel
theorem dX6_gripTool_70 : decode cX6_gripTool 70 = .ok (.iload_n 2, 1) := by decide +kernel
theorem dX6_gripTool_71 : decode cX6_gripTool 71 = .ok (.iadd, 1) := by decide +kernel
theorem dX6_gripTool_72 : decode cX6_gripTool 72 = .ok (.putfield 83, 3) := by decide +kernel
theorem dX6_gripTool_75 : decode cX6_gripTool 75 = .ok (.getstatic 145, 3) := by decide +kernel
theorem dX6_gripTool_78 : decode cX6_gripTool 78 = .ok (.areturn, 1) := by decide +kernel
set_option maxRecDepth 20000 in
theorem ggX6_putTool_X1_fail : GoodIn wsX6_putTool wsX1_fail := goodIn_r _ [12, 13, 14, 15, 38, 39, 40, 41, 42, 43, 44] (by decide +kernel) (by decide +kernel)
set_option maxRecDepth 20000 in
theorem gX6_putTool_X1_fail : GoodIn wsX6_putTool (wsV RX6 174 RX1 yX1_fail wsX1_fail) := goodIn_app (goodIn_of _ (by decide +kernel)) ggX6_putTool_X1_fail
set_option maxRecDepth 20000 in
theorem ggX6_putTool_X3_boxTakes : GoodIn wsX6_putTool wsX3_boxTakes := goodIn_r _ [20, 21, 29, 30, 31, 32, 33, 34] (by decide +kernel) (by decide +kernel)
set_option maxRecDepth 20000 in
theorem gX6_putTool_X3_boxTakes : GoodIn wsX6_putTool (wsV RX6 236 RX3 yX3_boxTakes wsX3_boxTakes) := goodIn_app (goodIn_of _ (by decide +kernel)) ggX6_putTool_X3_boxTakes
theorem dX6_putTool_0 : decode cX6_putTool 0 = .ok (.iload_n 1, 1) := by decide +kernel
theorem dX6_putTool_1 : decode cX6_putTool 1 = .ok (.bipush 6, 2) := by decide +kernel
theorem dX6_putTool_3 : decode cX6_putTool 3 = .ok (.if_icmp .lt 12, 3) := by decide +kernel
theorem dX6_putTool_6 : decode cX6_putTool 6 = .ok (.aload_n 0, 1) := by decide +kernel
theorem dX6_putTool_7 : decode cX6_putTool 7 = .ok (.getfield 38, 3) := by decide +kernel
theorem dX6_putTool_10 : decode cX6_putTool 10 = .ok (.iconst 4, 1) := by decide +kernel
theorem dX6_putTool_11 : decode cX6_putTool 11 = .ok (.invokevirtual 174, 3) := by decide +kernel
theorem dX6_putTool_14 : decode cX6_putTool 14 = .ok (.areturn, 1) := by decide +kernel
theorem dX6_putTool_15 : decode cX6_putTool 15 = .ok (.aload_n 0, 1) := by decide +kernel
theorem dX6_putTool_16 : decode cX6_putTool 16 = .ok (.getfield 31, 3) := by decide +kernel
theorem dX6_putTool_19 : decode cX6_putTool 19 = .ok (.getfield 92, 3) := by decide +kernel
theorem dX6_putTool_22 : decode cX6_putTool 22 = .ok (.bipush (-4), 2) := by decide +kernel
theorem dX6_putTool_24 : decode cX6_putTool 24 = .ok (.if_icmp .ne 12, 3) := by decide +kernel
theorem dX6_putTool_27 : decode cX6_putTool 27 = .ok (.aload_n 0, 1) := by decide +kernel
theorem dX6_putTool_28 : decode cX6_putTool 28 = .ok (.getfield 38, 3) := by decide +kernel
theorem dX6_putTool_31 : decode cX6_putTool 31 = .ok (.iconst 5, 1) := by decide +kernel
theorem dX6_putTool_32 : decode cX6_putTool 32 = .ok (.invokevirtual 174, 3) := by decide +kernel
theorem dX6_putTool_35 : decode cX6_putTool 35 = .ok (.areturn, 1) := by decide +kernel
theorem dX6_putTool_36 : decode cX6_putTool 36 = .ok (.iload_n 2, 1) := by decide +kernel
theorem dX6_putTool_37 : decode cX6_putTool 37 = .ok (.aload_n 0, 1) := by decide +kernel
theorem dX6_putTool_38 : decode cX6_putTool 38 = .ok (.getfield 31, 3) := by decide +kernel
theorem dX6_putTool_41 : decode cX6_putTool 41 = .ok (.getfield 92, 3) := by decide +kernel
theorem dX6_putTool_44 : decode cX6_putTool 44 = .ok (.if_icmp .lt 12, 3) := by decide +kernel
theorem dX6_putTool_47 : decode cX6_putTool 47 = .ok (.aload_n 0, 1) := by decide +kernel
theorem dX6_putTool_48 : decode cX6_putTool 48 = .ok (.getfield 38, 3) := by decide +kernel
theorem dX6_putTool_51 : decode cX6_putTool 51 = .ok (.iconst 4, 1) := by decide +kernel
theorem dX6_putTool_52 : decode cX6_putTool 52 = .ok (.invokevirtual 174, 3) := by decide +kernel
theorem dX6_putTool_55 : decode cX6_putTool 55 = .ok (.areturn, 1) := by decide +kernel
theorem dX6_putTool_56 : decode cX6_putTool 56 = .ok (.aload_n 0, 1) := by decide +kernel
theorem dX6_putTool_57 : decode cX6_putTool 57 = .ok (.getfield 21, 3) := by decide +kernel
theorem dX6_putTool_60 : decode cX6_putTool 60 = .ok (.iload_n 1, 1) := by decide +kernel
theorem dX6_putTool_61 : decode cX6_putTool 61 = .ok (.aaload, 1) := by decide +kernel
theorem dX6_putTool_62 : decode cX6_putTool 62 = .ok (.getfield 79, 3) := by decide +kernel
theorem dX6_putTool_65 : decode cX6_putTool 65 = .ok (.istore_n 3, 1) := by decide +kernel
theorem dX6_putTool_66 : decode cX6_putTool 66 = .ok (.aload_n 0, 1) := by decide +kernel
theorem dX6_putTool_67 : decode cX6_putTool 67 = .ok (.getfield 31, 3) := by decide +kernel
theorem dX6_putTool_70 : decode cX6_putTool 70 = .ok (.iload_n 3, 1) := by decide +kernel
theorem dX6_putTool_71 : decode cX6_putTool 71 = .ok (.invokevirtual 236, 3) := by decide +kernel
theorem dX6_putTool_74 : decode cX6_putTool 74 = .ok (.ifCond .ne 13, 3) := by decide +kernel
theorem dX6_putTool_77 : decode cX6_putTool 77 = .ok (.aload_n 0, 1) := by decide +kernel
theorem dX6_putTool_78 : decode cX6_putTool 78 = .ok (.getfield 38, 3) := by decide +kernel
theorem dX6_putTool_81 : decode cX6_putTool 81 = .ok (.bipush 8, 2) := by decide +kernel
theorem dX6_putTool_83 : decode cX6_putTool 83 = .ok (.invokevirtual 174, 3) := by decide +kernel
theorem dX6_putTool_86 : decode cX6_putTool 86 = .ok (.areturn, 1) := by decide +kernel
theorem dX6_putTool_87 : decode cX6_putTool 87 = .ok (.aload_n 0, 1) := by decide +kernel
theorem dX6_putTool_88 : decode cX6_putTool 88 = .ok (.getfield 31, 3) := by decide +kernel
theorem dX6_putTool_91 : decode cX6_putTool 91 = .ok (.getfield 95, 3) := by decide +kernel
theorem dX6_putTool_94 : decode cX6_putTool 94 = .ok (.iload_n 2, 1) := by decide +kernel
theorem dX6_putTool_95 : decode cX6_putTool 95 = .ok (.iload_n 3, 1) := by decide +kernel
theorem dX6_putTool_96 : decode cX6_putTool 96 = .ok (.iconst (-1), 1) := by decide +kernel
theorem dX6_putTool_97 : decode cX6_putTool 97 = .ok (.if_icmp .ne 8, 3) := by decide +kernel
theorem dX6_putTool_100 : decode cX6_putTool 100 = .ok (.bipush (-4), 2) := by decide +kernel
theorem dX6_putTool_102 : decode cX6_putTool 102 = .ok (.goto 4, 3) := by decide +kernel
theorem dX6_putTool_105 : decode cX6_putTool 105 = .ok (.iload_n 1, 1) := by decide +kernel
theorem dX6_putTool_106 : decode cX6_putTool 106 = .ok (.iastore, 1) := by decide +kernel
theorem dX6_putTool_107 : decode cX6_putTool 107 = .ok (.getstatic 145, 3) := by decide +kernel
theorem dX6_putTool_110 : decode cX6_putTool 110 = .ok (.areturn, 1) := by decide +kernel

theorem dX7_init_0 : decode cX7_init 0 = .ok (.aload_n 0, 1) := by decide +kernel
theorem dX7_init_1 : decode cX7_init 1 = .ok (.invokespecial 1, 3) := by decide +kernel
theorem dX7_init_4 : decode cX7_init 4 = .ok (.aload_n 0, 1) := by decide +kernel
theorem dX7_init_5 : decode cX7_init 5 = .ok (.bipush 8, 2) := by decide +kernel
theorem dX7_init_7 : decode cX7_init 7 = .ok (.newarray .boolean, 2) := by decide +kernel
theorem dX7_init_9 : decode cX7_init 9 = .ok (.putfield 7, 3) := by decide +kernel
theorem dX7_init_12 : decode cX7_init 12 = .ok (.aload_n 0, 1) := by decide +kernel
theorem dX7_init_13 : decode cX7_init 13 = .ok (.bipush 8, 2) := by decide +kernel
theorem dX7_init_15 : decode cX7_init 15 = .ok (.newarray .int, 2) := by decide +kernel
theorem dX7_init_17 : decode cX7_init 17 = .ok (.putfield 13, 3) := by decide +kernel
theorem dX7_init_20 : decode cX7_init 20 = .ok (.aload_n 0, 1) := by decide +kernel
theorem dX7_init_21 : decode cX7_init 21 = .ok (.iconst 4, 1) := by decide +kernel
theorem dX7_init_22 : decode cX7_init 22 = .ok (.newarray .int, 2) := by decide +kernel
theorem dX7_init_24 : decode cX7_init 24 = .ok (.putfield 17, 3) := by decide +kernel
theorem dX7_init_27 : decode cX7_init 27 = .ok (.aload_n 0, 1) := by decide +kernel
theorem dX7_init_28 : decode cX7_init 28 = .ok (.iconst 4, 1) := by decide +kernel
theorem dX7_init_29 : decode cX7_init 29 = .ok (.newarray .int, 2) := by decide +kernel
theorem dX7_init_31 : decode cX7_init 31 = .ok (.putfield 20, 3) := by decide +kernel
theorem dX7_init_34 : decode cX7_init 34 = .ok (.aload_n 0, 1) := by decide +kernel
theorem dX7_init_35 : decode cX7_init 35 = .ok (.bipush 24, 2) := by decide +kernel
theorem dX7_init_37 : decode cX7_init 37 = .ok (.newarray .int, 2) := by decide +kernel
theorem dX7_init_39 : decode cX7_init 39 = .ok (.putfield 23, 3) := by decide +kernel
theorem dX7_init_42 : decode cX7_init 42 = .ok (.aload_n 0, 1) := by decide +kernel
theorem dX7_init_43 : decode cX7_init 43 = .ok (.bipush 24, 2) := by decide +kernel
theorem dX7_init_45 : decode cX7_init 45 = .ok (.newarray .int, 2) := by decide +kernel
theorem dX7_init_47 : decode cX7_init 47 = .ok (.putfield 26, 3) := by decide +kernel
theorem dX7_init_50 : decode cX7_init 50 = .ok (.aload_n 0, 1) := by decide +kernel
theorem dX7_init_51 : decode cX7_init 51 = .ok (.sipush 192, 3) := by decide +kernel
theorem dX7_init_54 : decode cX7_init 54 = .ok (.newarray .int, 2) := by decide +kernel
theorem dX7_init_56 : decode cX7_init 56 = .ok (.putfield 29, 3) := by decide +kernel
theorem dX7_init_59 : decode cX7_init 59 = .ok (.aload_n 0, 1) := by decide +kernel
theorem dX7_init_60 : decode cX7_init 60 = .ok (.sipush 192, 3) := by decide +kernel
theorem dX7_init_63 : decode cX7_init 63 = .ok (.newarray .int, 2) := by decide +kernel
theorem dX7_init_65 : decode cX7_init 65 = .ok (.putfield 32, 3) := by decide +kernel
theorem dX7_init_68 : decode cX7_init 68 = .ok (.aload_n 0, 1) := by decide +kernel
theorem dX7_init_69 : decode cX7_init 69 = .ok (.bipush 6, 2) := by decide +kernel
theorem dX7_init_71 : decode cX7_init 71 = .ok (.newarray .int, 2) := by decide +kernel
theorem dX7_init_73 : decode cX7_init 73 = .ok (.dup, 1) := by decide +kernel
theorem dX7_init_74 : decode cX7_init 74 = .ok (.iconst 0, 1) := by decide +kernel
theorem dX7_init_75 : decode cX7_init 75 = .ok (.iconst (-1), 1) := by decide +kernel
theorem dX7_init_76 : decode cX7_init 76 = .ok (.iastore, 1) := by decide +kernel
theorem dX7_init_77 : decode cX7_init 77 = .ok (.dup, 1) := by decide +kernel
theorem dX7_init_78 : decode cX7_init 78 = .ok (.iconst 1, 1) := by decide +kernel
theorem dX7_init_79 : decode cX7_init 79 = .ok (.iconst (-1), 1) := by decide +kernel
theorem dX7_init_80 : decode cX7_init 80 = .ok (.iastore, 1) := by decide +kernel
theorem dX7_init_81 : decode cX7_init 81 = .ok (.dup, 1) := by decide +kernel
theorem dX7_init_82 : decode cX7_init 82 = .ok (.iconst 2, 1) := by decide +kernel
theorem dX7_init_83 : decode cX7_init 83 = .ok (.iconst (-1), 1) := by decide +kernel
theorem dX7_init_84 : decode cX7_init 84 = .ok (.iastore, 1) := by decide +kernel
theorem dX7_init_85 : decode cX7_init 85 = .ok (.dup, 1) := by decide +kernel
theorem dX7_init_86 : decode cX7_init 86 = .ok (.iconst 3, 1) := by decide +kernel
theorem dX7_init_87 : decode cX7_init 87 = .ok (.iconst (-1), 1) := by decide +kernel
theorem dX7_init_88 : decode cX7_init 88 = .ok (.iastore, 1) := by decide +kernel
theorem dX7_init_89 : decode cX7_init 89 = .ok (.dup, 1) := by decide +kernel
theorem dX7_init_90 : decode cX7_init 90 = .ok (.iconst 4, 1) := by decide +kernel
theorem dX7_init_91 : decode cX7_init 91 = .ok (.iconst (-1), 1) := by decide +kernel
theorem dX7_init_92 : decode cX7_init 92 = .ok (.iastore, 1) := by decide +kernel
theorem dX7_init_93 : decode cX7_init 93 = .ok (.dup, 1) := by decide +kernel
theorem dX7_init_94 : decode cX7_init 94 = .ok (.iconst 5, 1) := by decide +kernel
theorem dX7_init_95 : decode cX7_init 95 = .ok (.iconst (-1), 1) := by decide +kernel
theorem dX7_init_96 : decode cX7_init 96 = .ok (.iastore, 1) := by decide +kernel
theorem dX7_init_97 : decode cX7_init 97 = .ok (.putfield 35, 3) := by decide +kernel
theorem dX7_init_100 : decode cX7_init 100 = .ok (.aload_n 0, 1) := by decide +kernel
theorem dX7_init_101 : decode cX7_init 101 = .ok (.bipush 6, 2) := by decide +kernel
theorem dX7_init_103 : decode cX7_init 103 = .ok (.newarray .int, 2) := by decide +kernel
theorem dX7_init_105 : decode cX7_init 105 = .ok (.putfield 38, 3) := by decide +kernel
theorem dX7_init_108 : decode cX7_init 108 = .ok (.aload_n 0, 1) := by decide +kernel
theorem dX7_init_109 : decode cX7_init 109 = .ok (.bipush 6, 2) := by decide +kernel
theorem dX7_init_111 : decode cX7_init 111 = .ok (.newarray .int, 2) := by decide +kernel
theorem dX7_init_113 : decode cX7_init 113 = .ok (.putfield 41, 3) := by decide +kernel
theorem dX7_init_116 : decode cX7_init 116 = .ok (.aload_n 0, 1) := by decide +kernel
theorem dX7_init_117 : decode cX7_init 117 = .ok (.iconst (-1), 1) := by decide +kernel
theorem dX7_init_118 : decode cX7_init 118 = .ok (.putfield 44, 3) := by decide +kernel
theorem dX7_init_121 : decode cX7_init 121 = .ok (.aload_n 0, 1) := by decide +kernel
theorem dX7_init_122 : decode cX7_init 122 = .ok (.iconst (-1), 1) := by decide +kernel
theorem dX7_init_123 : decode cX7_init 123 = .ok (.putfield 48, 3) := by decide +kernel
theorem dX7_init_126 : decode cX7_init 126 = .ok (.aload_n 0, 1) := by decide +kernel
theorem dX7_init_127 : decode cX7_init 127 = .ok (.bipush 20, 2) := by decide +kernel
theorem dX7_init_129 : decode cX7_init 129 = .ok (.newarray .int, 2) := by decide +kernel
theorem dX7_init_131 : decode cX7_init 131 = .ok (.putfield 51, 3) := by decide +kernel
theorem dX7_init_134 : decode cX7_init 134 = .ok (.aload_n 0, 1) := by decide +kernel
theorem dX7_init_135 : decode cX7_init 135 = .ok (.iconst (-1), 1) := by decide +kernel
theorem dX7_init_136 : decode cX7_init 136 = .ok (.putfield 54, 3) := by decide +kernel
theorem dX7_init_139 : decode cX7_init 139 = .ok (.aload_n 0, 1) := by decide +kernel
theorem dX7_init_140 : decode cX7_init 140 = .ok (.iconst 4, 1) := by decide +kernel
theorem dX7_init_141 : decode cX7_init 141 = .ok (.newarray .int, 2) := by decide +kernel
theorem dX7_init_143 : decode cX7_init 143 = .ok (.putfield 57, 3) := by decide +kernel
theorem dX7_init_146 : decode cX7_init 146 = .ok (.aload_n 0, 1) := by decide +kernel
theorem dX7_init_147 : decode cX7_init 147 = .ok (.bipush 8, 2) := by decide +kernel
theorem dX7_init_149 : decode cX7_init 149 = .ok (.newarray .int, 2) := by decide +kernel
theorem dX7_init_151 : decode cX7_init 151 = .ok (.putfield 60, 3) := by decide +kernel
theorem dX7_init_154 : decode cX7_init 154 = .ok (.aload_n 0, 1) := by decide +kernel
theorem dX7_init_155 : decode cX7_init 155 = .ok (.sipush 400, 3) := by decide +kernel
theorem dX7_init_158 : decode cX7_init 158 = .ok (.newarray .int, 2) := by decide +kernel
theorem dX7_init_160 : decode cX7_init 160 = .ok (.putfield 63, 3) := by decide +kernel
theorem dX7_init_163 : decode cX7_init 163 = .ok (.aload_n 0, 1) := by decide +kernel
theorem dX7_init_164 : decode cX7_init 164 = .ok (.bipush 24, 2) := by decide +kernel
theorem dX7_init_166 : decode cX7_init 166 = .ok (.newarray .int, 2) := by decide +kernel
theorem dX7_init_168 : decode cX7_init 168 = .ok (.putfield 66, 3) := by decide +kernel
theorem dX7_init_171 : decode cX7_init 171 = .ok (.aload_n 0, 1) := by decide +kernel
theorem dX7_init_172 : decode cX7_init 172 = .ok (.iconst 5, 1) := by decide +kernel
theorem dX7_init_173 : decode cX7_init 173 = .ok (.newarray .int, 2) := by decide +kernel
theorem dX7_init_175 : decode cX7_init 175 = .ok (.putfield 69, 3) := by decide +kernel
theorem dX7_init_178 : decode cX7_init 178 = .ok (.iconst 0, 1) := by decide +kernel
theorem dX7_init_179 : decode cX7_init 179 = .ok (.istore_n 1, 1) := by decide +kernel
theorem dX7_init_180 : decode cX7_init 180 = .ok (.iload_n 1, 1) := by decide +kernel
theorem dX7_init_181 : decode cX7_init 181 = .ok (.iconst 4, 1) := by decide +kernel
theorem dX7_init_182 : decode cX7_init 182 = .ok (.if_icmp .ge 16, 3) := by decide +kernel
theorem dX7_init_185 : decode cX7_init 185 = .ok (.aload_n 0, 1) := by decide +kernel
theorem dX7_init_186 : decode cX7_init 186 = .ok (.getfield 7, 3) := by decide +kernel
theorem dX7_init_189 : decode cX7_init 189 = .ok (.iload_n 1, 1) := by decide +kernel
theorem dX7_init_190 : decode cX7_init 190 = .ok (.iconst 1, 1) := by decide +kernel
theorem dX7_init_191 : decode cX7_init 191 = .ok (.bastore, 1) := by decide +kernel
theorem dX7_init_192 : decode cX7_init 192 = .ok (.iinc 1 1, 3) := by decide +kernel
theorem dX7_init_195 : decode cX7_init 195 = .ok (.goto (-15), 3) := by decide +kernel
theorem dX7_init_198 : decode cX7_init 198 = .ok (.return_, 1) := by decide +kernel
theorem dX7_in_0 : decode cX7_in 0 = .ok (.iload_n 0, 1) := by decide +kernel
theorem dX7_in_1 : decode cX7_in 1 = .ok (.iload_n 1, 1) := by decide +kernel
theorem dX7_in_2 : decode cX7_in 2 = .ok (.if_icmp .lt 12, 3) := by decide +kernel
theorem dX7_in_5 : decode cX7_in 5 = .ok (.iload_n 0, 1) := by decide +kernel
theorem dX7_in_6 : decode cX7_in 6 = .ok (.iload_n 2, 1) := by decide +kernel
theorem dX7_in_7 : decode cX7_in 7 = .ok (.if_icmp .gt 7, 3) := by decide +kernel
theorem dX7_in_10 : decode cX7_in 10 = .ok (.iconst 1, 1) := by decide +kernel
theorem dX7_in_11 : decode cX7_in 11 = .ok (.goto 4, 3) := by decide +kernel
theorem dX7_in_14 : decode cX7_in 14 = .ok (.iconst 0, 1) := by decide +kernel
theorem dX7_in_15 : decode cX7_in 15 = .ok (.ireturn, 1) := by decide +kernel
set_option maxRecDepth 20000 in
theorem ggX7_isBatch_X7_in : GoodIn wsX7_isBatch wsX7_in := goodIn_r _ [4] (by decide +kernel) (by decide +kernel)
set_option maxRecDepth 20000 in
theorem gX7_isBatch_X7_in : GoodIn wsX7_isBatch (va_wsS RX7 75 yX7_in wsX7_in) := goodIn_app (goodIn_of _ (by decide +kernel)) ggX7_isBatch_X7_in
theorem dX7_isBatch_0 : decode cX7_isBatch 0 = .ok (.iload_n 0, 1) := by decide +kernel
theorem dX7_isBatch_1 : decode cX7_isBatch 1 = .ok (.iconst 0, 1) := by decide +kernel
theorem dX7_isBatch_2 : decode cX7_isBatch 2 = .ok (.iconst 3, 1) := by decide +kernel
theorem dX7_isBatch_3 : decode cX7_isBatch 3 = .ok (.invokestatic 75, 3) := by decide +kernel
theorem dX7_isBatch_6 : decode cX7_isBatch 6 = .ok (.ireturn, 1) := by decide +kernel
set_option maxRecDepth 20000 in
theorem ggX7_vial_X7_in : GoodIn wsX7_vial wsX7_in := goodIn_r _ [7] (by decide +kernel) (by decide +kernel)
set_option maxRecDepth 20000 in
theorem gX7_vial_X7_in : GoodIn wsX7_vial (va_wsS RX7 75 yX7_in wsX7_in) := goodIn_app (goodIn_of _ (by decide +kernel)) ggX7_vial_X7_in
theorem dX7_vial_0 : decode cX7_vial 0 = .ok (.aload_n 0, 1) := by decide +kernel
theorem dX7_vial_1 : decode cX7_vial 1 = .ok (.iconst 0, 1) := by decide +kernel
theorem dX7_vial_2 : decode cX7_vial 2 = .ok (.putfield 72, 3) := by decide +kernel
theorem dX7_vial_5 : decode cX7_vial 5 = .ok (.iload_n 1, 1) := by decide +kernel
theorem dX7_vial_6 : decode cX7_vial 6 = .ok (.iconst 0, 1) := by decide +kernel
theorem dX7_vial_7 : decode cX7_vial 7 = .ok (.bipush 7, 2) := by decide +kernel
theorem dX7_vial_9 : decode cX7_vial 9 = .ok (.invokestatic 75, 3) := by decide +kernel
theorem dX7_vial_12 : decode cX7_vial 12 = .ok (.ifCond .eq 14, 3) := by decide +kernel
theorem dX7_vial_15 : decode cX7_vial 15 = .ok (.iload_n 2, 1) := by decide +kernel
theorem dX7_vial_16 : decode cX7_vial 16 = .ok (.iconst (-1), 1) := by decide +kernel
theorem dX7_vial_17 : decode cX7_vial 17 = .ok (.sipush 1000, 3) := by decide +kernel
theorem dX7_vial_20 : decode cX7_vial 20 = .ok (.invokestatic 75, 3) := by decide +kernel
theorem dX7_vial_23 : decode cX7_vial 23 = .ok (.ifCond .ne 5, 3) := by decide +kernel
theorem dX7_vial_26 : decode cX7_vial 26 = .ok (.iconst (-1), 1) := by decide +kernel
theorem dX7_vial_27 : decode cX7_vial 27 = .ok (.ireturn, 1) := by decide +kernel
theorem dX7_vial_28 : decode cX7_vial 28 = .ok (.aload_n 0, 1) := by decide +kernel
theorem dX7_vial_29 : decode cX7_vial 29 = .ok (.getfield 7, 3) := by decide +kernel
theorem dX7_vial_32 : decode cX7_vial 32 = .ok (.iload_n 1, 1) := by decide +kernel
theorem dX7_vial_33 : decode cX7_vial 33 = .ok (.baload, 1) := by decide +kernel
theorem dX7_vial_34 : decode cX7_vial 34 = .ok (.ifCond .eq 12, 3) := by decide +kernel
theorem dX7_vial_37 : decode cX7_vial 37 = .ok (.aload_n 0, 1) := by decide +kernel
theorem dX7_vial_38 : decode cX7_vial 38 = .ok (.getfield 13, 3) := by decide +kernel
theorem dX7_vial_41 : decode cX7_vial 41 = .ok (.iload_n 1, 1) := by decide +kernel
theorem dX7_vial_42 : decode cX7_vial 42 = .ok (.iaload, 1) := by decide +kernel
theorem dX7_vial_43 : decode cX7_vial 43 = .ok (.goto 5, 3) := by decide +kernel
theorem dX7_vial_46 : decode cX7_vial 46 = .ok (.bipush (-4), 2) := by decide +kernel
theorem dX7_vial_48 : decode cX7_vial 48 = .ok (.istore_n 3, 1) := by decide +kernel
theorem dX7_vial_49 : decode cX7_vial 49 = .ok (.aload_n 0, 1) := by decide +kernel
theorem dX7_vial_50 : decode cX7_vial 50 = .ok (.getfield 7, 3) := by decide +kernel
theorem dX7_vial_53 : decode cX7_vial 53 = .ok (.iload_n 1, 1) := by decide +kernel
theorem dX7_vial_54 : decode cX7_vial 54 = .ok (.iload_n 2, 1) := by decide +kernel
theorem dX7_vial_55 : decode cX7_vial 55 = .ok (.ifCond .lt 7, 3) := by decide +kernel
theorem dX7_vial_58 : decode cX7_vial 58 = .ok (.iconst 1, 1) := by decide +kernel
theorem dX7_vial_59 : decode cX7_vial 59 = .ok (.goto 4, 3) := by decide +kernel
theorem dX7_vial_62 : decode cX7_vial 62 = .ok (.iconst 0, 1) := by decide +kernel
theorem dX7_vial_63 : decode cX7_vial 63 = .ok (.bastore, 1) := by decide +kernel
theorem dX7_vial_64 : decode cX7_vial 64 = .ok (.aload_n 0, 1) := by decide +kernel
theorem dX7_vial_65 : decode cX7_vial 65 = .ok (.getfield 13, 3) := by decide +kernel
theorem dX7_vial_68 : decode cX7_vial 68 = .ok (.iload_n 1, 1) := by decide +kernel
theorem dX7_vial_69 : decode cX7_vial 69 = .ok (.iload_n 2, 1) := by decide +kernel
theorem dX7_vial_70 : decode cX7_vial 70 = .ok (.ifCond .ge 7, 3) := by decide +kernel
theorem dX7_vial_73 : decode cX7_vial 73 = .ok (.iconst 0, 1) := by decide +kernel
theorem dX7_vial_74 : decode cX7_vial 74 = .ok (.goto 4, 3) := by decide +kernel
theorem dX7_vial_77 : decode cX7_vial 77 = .ok (.iload_n 2, 1) := by decide +kernel
theorem dX7_vial_78 : decode cX7_vial 78 = .ok (.iastore, 1) := by decide +kernel
theorem dX7_vial_79 : decode cX7_vial 79 = .ok (.iload_n 3, 1) := by decide +kernel
theorem dX7_vial_80 : decode cX7_vial 80 = .ok (.ireturn, 1) := by decide +kernel
set_option maxRecDepth 20000 in
theorem ggX7_batch_X7_isBatch : GoodIn wsX7_batch wsX7_isBatch := goodIn_r _ [7, 8, 9, 6, 10] (by decide +kernel) (by decide +kernel)
set_option maxRecDepth 20000 in
theorem gX7_batch_X7_isBatch : GoodIn wsX7_batch (va_wsS RX7 79 yX7_isBatch wsX7_isBatch) := goodIn_app (goodIn_of _ (by decide +kernel)) ggX7_batch_X7_isBatch
set_option maxRecDepth 20000 in
theorem ggX7_batch_X7_in : GoodIn wsX7_batch wsX7_in := goodIn_r _ [10] (by decide +kernel) (by decide +kernel)
set_option maxRecDepth 20000 in
theorem gX7_batch_X7_in : GoodIn wsX7_batch (va_wsS RX7 75 yX7_in wsX7_in) := goodIn_app (goodIn_of _ (by decide +kernel)) ggX7_batch_X7_in
theorem dX7_batch_0 : decode cX7_batch 0 = .ok (.aload_n 0, 1) := by decide +kernel
theorem dX7_batch_1 : decode cX7_batch 1 = .ok (.iconst 0, 1) := by decide +kernel
theorem dX7_batch_2 : decode cX7_batch 2 = .ok (.putfield 72, 3) := by decide +kernel
theorem dX7_batch_5 : decode cX7_batch 5 = .ok (.iload_n 1, 1) := by decide +kernel
theorem dX7_batch_6 : decode cX7_batch 6 = .ok (.invokestatic 79, 3) := by decide +kernel
theorem dX7_batch_9 : decode cX7_batch 9 = .ok (.ifCond .eq 12, 3) := by decide +kernel
theorem dX7_batch_12 : decode cX7_batch 12 = .ok (.iload_n 2, 1) := by decide +kernel
theorem dX7_batch_13 : decode cX7_batch 13 = .ok (.iconst 0, 1) := by decide +kernel
theorem dX7_batch_14 : decode cX7_batch 14 = .ok (.iconst 2, 1) := by decide +kernel
theorem dX7_batch_15 : decode cX7_batch 15 = .ok (.invokestatic 75, 3) := by decide +kernel
theorem dX7_batch_18 : decode cX7_batch 18 = .ok (.ifCond .ne 5, 3) := by decide +kernel
theorem dX7_batch_21 : decode cX7_batch 21 = .ok (.iconst (-1), 1) := by decide +kernel
theorem dX7_batch_22 : decode cX7_batch 22 = .ok (.ireturn, 1) := by decide +kernel
theorem dX7_batch_23 : decode cX7_batch 23 = .ok (.aload_n 0, 1) := by decide +kernel
theorem dX7_batch_24 : decode cX7_batch 24 = .ok (.getfield 20, 3) := by decide +kernel
theorem dX7_batch_27 : decode cX7_batch 27 = .ok (.iload_n 1, 1) := by decide +kernel
theorem dX7_batch_28 : decode cX7_batch 28 = .ok (.iaload, 1) := by decide +kernel
theorem dX7_batch_29 : decode cX7_batch 29 = .ok (.istore_n 3, 1) := by decide +kernel
theorem dX7_batch_30 : decode cX7_batch 30 = .ok (.aload_n 0, 1) := by decide +kernel
theorem dX7_batch_31 : decode cX7_batch 31 = .ok (.getfield 20, 3) := by decide +kernel
theorem dX7_batch_34 : decode cX7_batch 34 = .ok (.iload_n 1, 1) := by decide +kernel
theorem dX7_batch_35 : decode cX7_batch 35 = .ok (.iconst 0, 1) := by decide +kernel
theorem dX7_batch_36 : decode cX7_batch 36 = .ok (.iastore, 1) := by decide +kernel
theorem dX7_batch_37 : decode cX7_batch 37 = .ok (.aload_n 0, 1) := by decide +kernel
theorem dX7_batch_38 : decode cX7_batch 38 = .ok (.getfield 17, 3) := by decide +kernel
theorem dX7_batch_41 : decode cX7_batch 41 = .ok (.iload_n 1, 1) := by decide +kernel
theorem dX7_batch_42 : decode cX7_batch 42 = .ok (.iload_n 2, 1) := by decide +kernel
theorem dX7_batch_43 : decode cX7_batch 43 = .ok (.iastore, 1) := by decide +kernel
theorem dX7_batch_44 : decode cX7_batch 44 = .ok (.iload_n 3, 1) := by decide +kernel
theorem dX7_batch_45 : decode cX7_batch 45 = .ok (.ireturn, 1) := by decide +kernel
set_option maxRecDepth 20000 in
theorem ggX7_round_X7_isBatch : GoodIn wsX7_round wsX7_isBatch := goodIn_r _ [8, 9, 10, 7, 11] (by decide +kernel) (by decide +kernel)
set_option maxRecDepth 20000 in
theorem gX7_round_X7_isBatch : GoodIn wsX7_round (va_wsS RX7 79 yX7_isBatch wsX7_isBatch) := goodIn_app (goodIn_of _ (by decide +kernel)) ggX7_round_X7_isBatch
set_option maxRecDepth 20000 in
theorem ggX7_round_X7_in : GoodIn wsX7_round wsX7_in := goodIn_r _ [11] (by decide +kernel) (by decide +kernel)
set_option maxRecDepth 20000 in
theorem gX7_round_X7_in : GoodIn wsX7_round (va_wsS RX7 75 yX7_in wsX7_in) := goodIn_app (goodIn_of _ (by decide +kernel)) ggX7_round_X7_in
theorem dX7_round_0 : decode cX7_round 0 = .ok (.aload_n 0, 1) := by decide +kernel
theorem dX7_round_1 : decode cX7_round 1 = .ok (.iconst 0, 1) := by decide +kernel
theorem dX7_round_2 : decode cX7_round 2 = .ok (.putfield 72, 3) := by decide +kernel
theorem dX7_round_5 : decode cX7_round 5 = .ok (.iload_n 1, 1) := by decide +kernel
theorem dX7_round_6 : decode cX7_round 6 = .ok (.invokestatic 79, 3) := by decide +kernel
theorem dX7_round_9 : decode cX7_round 9 = .ok (.ifCond .eq 13, 3) := by decide +kernel
theorem dX7_round_12 : decode cX7_round 12 = .ok (.iload_n 2, 1) := by decide +kernel
theorem dX7_round_13 : decode cX7_round 13 = .ok (.iconst 0, 1) := by decide +kernel
theorem dX7_round_14 : decode cX7_round 14 = .ok (.bipush 9, 2) := by decide +kernel
theorem dX7_round_16 : decode cX7_round 16 = .ok (.invokestatic 75, 3) := by decide +kernel
theorem dX7_round_19 : decode cX7_round 19 = .ok (.ifCond .ne 5, 3) := by decide +kernel
theorem dX7_round_22 : decode cX7_round 22 = .ok (.iconst (-1), 1) := by decide +kernel
theorem dX7_round_23 : decode cX7_round 23 = .ok (.ireturn, 1) := by decide +kernel
theorem dX7_round_24 : decode cX7_round 24 = .ok (.aload_n 0, 1) := by decide +kernel
theorem dX7_round_25 : decode cX7_round 25 = .ok (.getfield 20, 3) := by decide +kernel
theorem dX7_round_28 : decode cX7_round 28 = .ok (.iload_n 1, 1) := by decide +kernel
theorem dX7_round_29 : decode cX7_round 29 = .ok (.iaload, 1) := by decide +kernel
theorem dX7_round_30 : decode cX7_round 30 = .ok (.bipush 6, 2) := by decide +kernel
theorem dX7_round_32 : decode cX7_round 32 = .ok (.if_icmp .ne 6, 3) := by decide +kernel
theorem dX7_round_35 : decode cX7_round 35 = .ok (.bipush (-2), 2) := by decide +kernel
theorem dX7_round_37 : decode cX7_round 37 = .ok (.ireturn, 1) := by decide +kernel
theorem dX7_round_38 : decode cX7_round 38 = .ok (.bipush 6, 2) := by decide +kernel
theorem dX7_round_40 : decode cX7_round 40 = .ok (.iload_n 1, 1) := by decide +kernel
theorem dX7_round_41 : decode cX7_round 41 = .ok (.imul, 1) := by decide +kernel
theorem dX7_round_42 : decode cX7_round 42 = .ok (.aload_n 0, 1) := by decide +kernel
theorem dX7_round_43 : decode cX7_round 43 = .ok (.getfield 20, 3) := by decide +kernel
theorem dX7_round_46 : decode cX7_round 46 = .ok (.iload_n 1, 1) := by decide +kernel
theorem dX7_round_47 : decode cX7_round 47 = .ok (.iaload, 1) := by decide +kernel
theorem dX7_round_48 : decode cX7_round 48 = .ok (.iadd, 1) := by decide +kernel
theorem dX7_round_49 : decode cX7_round 49 = .ok (.istore_n 3, 1) := by decide +kernel
theorem dX7_round_50 : decode cX7_round 50 = .ok (.aload_n 0, 1) := by decide +kernel
theorem dX7_round_51 : decode cX7_round 51 = .ok (.getfield 23, 3) := by decide +kernel
theorem dX7_round_54 : decode cX7_round 54 = .ok (.iload_n 3, 1) := by decide +kernel
theorem dX7_round_55 : decode cX7_round 55 = .ok (.iload_n 2, 1) := by decide +kernel
theorem dX7_round_56 : decode cX7_round 56 = .ok (.iastore, 1) := by decide +kernel
theorem dX7_round_57 : decode cX7_round 57 = .ok (.aload_n 0, 1) := by decide +kernel
theorem dX7_round_58 : decode cX7_round 58 = .ok (.getfield 26, 3) := by decide +kernel
theorem dX7_round_61 : decode cX7_round 61 = .ok (.iload_n 3, 1) := by decide +kernel
theorem dX7_round_62 : decode cX7_round 62 = .ok (.iconst 0, 1) := by decide +kernel
theorem dX7_round_63 : decode cX7_round 63 = .ok (.iastore, 1) := by decide +kernel
theorem dX7_round_64 : decode cX7_round 64 = .ok (.aload_n 0, 1) := by decide +kernel
theorem dX7_round_65 : decode cX7_round 65 = .ok (.getfield 20, 3) := by decide +kernel
theorem dX7_round_68 : decode cX7_round 68 = .ok (.iload_n 1, 1) := by decide +kernel
theorem dX7_round_69 : decode cX7_round 69 = .ok (.dup2, 1) := by decide +kernel
theorem dX7_round_70 : decode cX7_round 70 = .ok (.iaload, 1) := by decide +kernel
theorem dX7_round_71 : decode cX7_round 71 = .ok (.iconst 1, 1) := by decide +kernel
theorem dX7_round_72 : decode cX7_round 72 = .ok (.iadd, 1) := by decide +kernel
theorem dX7_round_73 : decode cX7_round 73 = .ok (.iastore, 1) := by decide +kernel
theorem dX7_round_74 : decode cX7_round 74 = .ok (.aload_n 0, 1) := by decide +kernel
theorem dX7_round_75 : decode cX7_round 75 = .ok (.getfield 20, 3) := by decide +kernel
theorem dX7_round_78 : decode cX7_round 78 = .ok (.iload_n 1, 1) := by decide +kernel
theorem dX7_round_79 : decode cX7_round 79 = .ok (.iaload, 1) := by decide +kernel
theorem dX7_round_80 : decode cX7_round 80 = .ok (.iconst 1, 1) := by decide +kernel
theorem dX7_round_81 : decode cX7_round 81 = .ok (.isub, 1) := by decide +kernel
theorem dX7_round_82 : decode cX7_round 82 = .ok (.ireturn, 1) := by decide +kernel
theorem dX7_most_0 : decode cX7_most 0 = .ok (.iload_n 0, 1) := by decide +kernel
theorem dX7_most_1 : decode cX7_most 1 = .ok (.tableswitch 94 3 17 #[75, 94, 94, 94, 75, 94, 94, 75, 75, 78, 81, 84, 87, 90, 92], 75) := by decide +kernel
theorem dX7_most_76 : decode cX7_most 76 = .ok (.bipush 9, 2) := by decide +kernel
theorem dX7_most_78 : decode cX7_most 78 = .ok (.ireturn, 1) := by decide +kernel
theorem dX7_most_79 : decode cX7_most 79 = .ok (.bipush 40, 2) := by decide +kernel
theorem dX7_most_81 : decode cX7_most 81 = .ok (.ireturn, 1) := by decide +kernel
theorem dX7_most_82 : decode cX7_most 82 = .ok (.bipush 60, 2) := by decide +kernel
theorem dX7_most_84 : decode cX7_most 84 = .ok (.ireturn, 1) := by decide +kernel
theorem dX7_most_85 : decode cX7_most 85 = .ok (.bipush 35, 2) := by decide +kernel
theorem dX7_most_87 : decode cX7_most 87 = .ok (.ireturn, 1) := by decide +kernel
theorem dX7_most_88 : decode cX7_most 88 = .ok (.bipush 99, 2) := by decide +kernel
theorem dX7_most_90 : decode cX7_most 90 = .ok (.ireturn, 1) := by decide +kernel
theorem dX7_most_91 : decode cX7_most 91 = .ok (.iconst 2, 1) := by decide +kernel
theorem dX7_most_92 : decode cX7_most 92 = .ok (.ireturn, 1) := by decide +kernel
theorem dX7_most_93 : decode cX7_most 93 = .ok (.iconst 3, 1) := by decide +kernel
theorem dX7_most_94 : decode cX7_most 94 = .ok (.ireturn, 1) := by decide +kernel
theorem dX7_most_95 : decode cX7_most 95 = .ok (.sipush 200, 3) := by decide +kernel
theorem dX7_most_98 : decode cX7_most 98 = .ok (.ireturn, 1) := by decide +kernel
set_option maxRecDepth 20000 in
theorem ggX7_step_X7_isBatch : GoodIn wsX7_step wsX7_isBatch := goodIn_r _ [9, 10, 11, 8, 12] (by decide +kernel) (by decide +kernel)
set_option maxRecDepth 20000 in
theorem gX7_step_X7_isBatch : GoodIn wsX7_step (va_wsS RX7 79 yX7_isBatch wsX7_isBatch) := goodIn_app (goodIn_of _ (by decide +kernel)) ggX7_step_X7_isBatch
set_option maxRecDepth 20000 in
theorem ggX7_step_X7_in : GoodIn wsX7_step wsX7_in := goodIn_r _ [12] (by decide +kernel) (by decide +kernel)
set_option maxRecDepth 20000 in
theorem gX7_step_X7_in : GoodIn wsX7_step (va_wsS RX7 75 yX7_in wsX7_in) := goodIn_app (goodIn_of _ (by decide +kernel)) ggX7_step_X7_in
set_option maxRecDepth 20000 in
theorem ggX7_step_X7_most : GoodIn wsX7_step wsX7_most := goodIn_r _ [15] (by decide +kernel) (by decide +kernel)
set_option maxRecDepth 20000 in
theorem gX7_step_X7_most : GoodIn wsX7_step (va_wsS RX7 83 yX7_most wsX7_most) := goodIn_app (goodIn_of _ (by decide +kernel)) ggX7_step_X7_most
theorem dX7_step_0 : decode cX7_step 0 = .ok (.aload_n 0, 1) := by decide +kernel
theorem dX7_step_1 : decode cX7_step 1 = .ok (.iconst 0, 1) := by decide +kernel
theorem dX7_step_2 : decode cX7_step 2 = .ok (.putfield 72, 3) := by decide +kernel
theorem dX7_step_5 : decode cX7_step 5 = .ok (.iload_n 1, 1) := by decide +kernel
theorem dX7_step_6 : decode cX7_step 6 = .ok (.invokestatic 79, 3) := by decide +kernel
theorem dX7_step_9 : decode cX7_step 9 = .ok (.ifCond .eq 25, 3) := by decide +kernel
theorem dX7_step_12 : decode cX7_step 12 = .ok (.iload_n 2, 1) := by decide +kernel
theorem dX7_step_13 : decode cX7_step 13 = .ok (.iconst 0, 1) := by decide +kernel
theorem dX7_step_14 : decode cX7_step 14 = .ok (.bipush 17, 2) := by decide +kernel
theorem dX7_step_16 : decode cX7_step 16 = .ok (.invokestatic 75, 3) := by decide +kernel
theorem dX7_step_19 : decode cX7_step 19 = .ok (.ifCond .eq 15, 3) := by decide +kernel
theorem dX7_step_22 : decode cX7_step 22 = .ok (.iload_n 3, 1) := by decide +kernel
theorem dX7_step_23 : decode cX7_step 23 = .ok (.iconst 0, 1) := by decide +kernel
theorem dX7_step_24 : decode cX7_step 24 = .ok (.iload_n 2, 1) := by decide +kernel
theorem dX7_step_25 : decode cX7_step 25 = .ok (.invokestatic 83, 3) := by decide +kernel
theorem dX7_step_28 : decode cX7_step 28 = .ok (.invokestatic 75, 3) := by decide +kernel
theorem dX7_step_31 : decode cX7_step 31 = .ok (.ifCond .ne 5, 3) := by decide +kernel
theorem dX7_step_34 : decode cX7_step 34 = .ok (.iconst (-1), 1) := by decide +kernel
theorem dX7_step_35 : decode cX7_step 35 = .ok (.ireturn, 1) := by decide +kernel
theorem dX7_step_36 : decode cX7_step 36 = .ok (.aload_n 0, 1) := by decide +kernel
theorem dX7_step_37 : decode cX7_step 37 = .ok (.getfield 20, 3) := by decide +kernel
theorem dX7_step_40 : decode cX7_step 40 = .ok (.iload_n 1, 1) := by decide +kernel
theorem dX7_step_41 : decode cX7_step 41 = .ok (.iaload, 1) := by decide +kernel
theorem dX7_step_42 : decode cX7_step 42 = .ok (.ifCond .ne 6, 3) := by decide +kernel
theorem dX7_step_45 : decode cX7_step 45 = .ok (.bipush (-3), 2) := by decide +kernel
theorem dX7_step_47 : decode cX7_step 47 = .ok (.ireturn, 1) := by decide +kernel
theorem dX7_step_48 : decode cX7_step 48 = .ok (.bipush 6, 2) := by decide +kernel
theorem dX7_step_50 : decode cX7_step 50 = .ok (.iload_n 1, 1) := by decide +kernel
theorem dX7_step_51 : decode cX7_step 51 = .ok (.imul, 1) := by decide +kernel
theorem dX7_step_52 : decode cX7_step 52 = .ok (.aload_n 0, 1) := by decide +kernel
theorem dX7_step_53 : decode cX7_step 53 = .ok (.getfield 20, 3) := by decide +kernel
theorem dX7_step_56 : decode cX7_step 56 = .ok (.iload_n 1, 1) := by decide +kernel
theorem dX7_step_57 : decode cX7_step 57 = .ok (.iaload, 1) := by decide +kernel
theorem dX7_step_58 : decode cX7_step 58 = .ok (.iadd, 1) := by decide +kernel
theorem dX7_step_59 : decode cX7_step 59 = .ok (.iconst 1, 1) := by decide +kernel
theorem dX7_step_60 : decode cX7_step 60 = .ok (.isub, 1) := by decide +kernel
theorem dX7_step_61 : decode cX7_step 61 = .ok (.istore 4, 2) := by decide +kernel
theorem dX7_step_63 : decode cX7_step 63 = .ok (.aload_n 0, 1) := by decide +kernel
theorem dX7_step_64 : decode cX7_step 64 = .ok (.getfield 26, 3) := by decide +kernel
theorem dX7_step_67 : decode cX7_step 67 = .ok (.iload 4, 2) := by decide +kernel
theorem dX7_step_69 : decode cX7_step 69 = .ok (.iaload, 1) := by decide +kernel
theorem dX7_step_70 : decode cX7_step 70 = .ok (.bipush 8, 2) := by decide +kernel
theorem dX7_step_72 : decode cX7_step 72 = .ok (.if_icmp .ne 6, 3) := by decide +kernel
theorem dX7_step_75 : decode cX7_step 75 = .ok (.bipush (-2), 2) := by decide +kernel
theorem dX7_step_77 : decode cX7_step 77 = .ok (.ireturn, 1) := by decide +kernel
theorem dX7_step_78 : decode cX7_step 78 = .ok (.aload_n 0, 1) := by decide +kernel
theorem dX7_step_79 : decode cX7_step 79 = .ok (.getfield 29, 3) := by decide +kernel
theorem dX7_step_82 : decode cX7_step 82 = .ok (.bipush 8, 2) := by decide +kernel
theorem dX7_step_84 : decode cX7_step 84 = .ok (.iload 4, 2) := by decide +kernel
theorem dX7_step_86 : decode cX7_step 86 = .ok (.imul, 1) := by decide +kernel
theorem dX7_step_87 : decode cX7_step 87 = .ok (.aload_n 0, 1) := by decide +kernel
theorem dX7_step_88 : decode cX7_step 88 = .ok (.getfield 26, 3) := by decide +kernel
theorem dX7_step_91 : decode cX7_step 91 = .ok (.iload 4, 2) := by decide +kernel
theorem dX7_step_93 : decode cX7_step 93 = .ok (.iaload, 1) := by decide +kernel
theorem dX7_step_94 : decode cX7_step 94 = .ok (.iadd, 1) := by decide +kernel
theorem dX7_step_95 : decode cX7_step 95 = .ok (.iload_n 2, 1) := by decide +kernel
theorem dX7_step_96 : decode cX7_step 96 = .ok (.iastore, 1) := by decide +kernel
theorem dX7_step_97 : decode cX7_step 97 = .ok (.aload_n 0, 1) := by decide +kernel
theorem dX7_step_98 : decode cX7_step 98 = .ok (.getfield 32, 3) := by decide +kernel
theorem dX7_step_101 : decode cX7_step 101 = .ok (.bipush 8, 2) := by decide +kernel
theorem dX7_step_103 : decode cX7_step 103 = .ok (.iload 4, 2) := by decide +kernel
theorem dX7_step_105 : decode cX7_step 105 = .ok (.imul, 1) := by decide +kernel
theorem dX7_step_106 : decode cX7_step 106 = .ok (.aload_n 0, 1) := by decide +kernel
theorem dX7_step_107 : decode cX7_step 107 = .ok (.getfield 26, 3) := by decide +kernel
theorem dX7_step_110 : decode cX7_step 110 = .ok (.iload 4, 2) := by decide +kernel
theorem dX7_step_112 : decode cX7_step 112 = .ok (.iaload, 1) := by decide +kernel
theorem dX7_step_113 : decode cX7_step 113 = .ok (.iadd, 1) := by decide +kernel
theorem dX7_step_114 : decode cX7_step 114 = .ok (.iload_n 3, 1) := by decide +kernel
theorem dX7_step_115 : decode cX7_step 115 = .ok (.iastore, 1) := by decide +kernel
theorem dX7_step_116 : decode cX7_step 116 = .ok (.aload_n 0, 1) := by decide +kernel
theorem dX7_step_117 : decode cX7_step 117 = .ok (.getfield 26, 3) := by decide +kernel
theorem dX7_step_120 : decode cX7_step 120 = .ok (.iload 4, 2) := by decide +kernel
theorem dX7_step_122 : decode cX7_step 122 = .ok (.dup2, 1) := by decide +kernel
theorem dX7_step_123 : decode cX7_step 123 = .ok (.iaload, 1) := by decide +kernel
theorem dX7_step_124 : decode cX7_step 124 = .ok (.iconst 1, 1) := by decide +kernel
theorem dX7_step_125 : decode cX7_step 125 = .ok (.iadd, 1) := by decide +kernel
theorem dX7_step_126 : decode cX7_step 126 = .ok (.iastore, 1) := by decide +kernel
theorem dX7_step_127 : decode cX7_step 127 = .ok (.aload_n 0, 1) := by decide +kernel
theorem dX7_step_128 : decode cX7_step 128 = .ok (.getfield 26, 3) := by decide +kernel
theorem dX7_step_131 : decode cX7_step 131 = .ok (.iload 4, 2) := by decide +kernel
theorem dX7_step_133 : decode cX7_step 133 = .ok (.iaload, 1) := by decide +kernel
theorem dX7_step_134 : decode cX7_step 134 = .ok (.iconst 1, 1) := by decide +kernel
theorem dX7_step_135 : decode cX7_step 135 = .ok (.isub, 1) := by decide +kernel
theorem dX7_step_136 : decode cX7_step 136 = .ok (.ireturn, 1) := by decide +kernel
set_option maxRecDepth 20000 in
theorem ggX7_tool_X7_in : GoodIn wsX7_tool wsX7_in := goodIn_r _ [8] (by decide +kernel) (by decide +kernel)
set_option maxRecDepth 20000 in
theorem gX7_tool_X7_in : GoodIn wsX7_tool (va_wsS RX7 75 yX7_in wsX7_in) := goodIn_app (goodIn_of _ (by decide +kernel)) ggX7_tool_X7_in
theorem dX7_tool_0 : decode cX7_tool 0 = .ok (.aload_n 0, 1) := by decide +kernel
theorem dX7_tool_1 : decode cX7_tool 1 = .ok (.iconst 0, 1) := by decide +kernel
theorem dX7_tool_2 : decode cX7_tool 2 = .ok (.putfield 72, 3) := by decide +kernel
theorem dX7_tool_5 : decode cX7_tool 5 = .ok (.iload_n 1, 1) := by decide +kernel
theorem dX7_tool_6 : decode cX7_tool 6 = .ok (.iconst 0, 1) := by decide +kernel
theorem dX7_tool_7 : decode cX7_tool 7 = .ok (.iconst 5, 1) := by decide +kernel
theorem dX7_tool_8 : decode cX7_tool 8 = .ok (.invokestatic 75, 3) := by decide +kernel
theorem dX7_tool_11 : decode cX7_tool 11 = .ok (.ifCond .eq 12, 3) := by decide +kernel
theorem dX7_tool_14 : decode cX7_tool 14 = .ok (.iload_n 2, 1) := by decide +kernel
theorem dX7_tool_15 : decode cX7_tool 15 = .ok (.iconst (-1), 1) := by decide +kernel
theorem dX7_tool_16 : decode cX7_tool 16 = .ok (.iconst 1, 1) := by decide +kernel
theorem dX7_tool_17 : decode cX7_tool 17 = .ok (.invokestatic 75, 3) := by decide +kernel
theorem dX7_tool_20 : decode cX7_tool 20 = .ok (.ifCond .ne 5, 3) := by decide +kernel
theorem dX7_tool_23 : decode cX7_tool 23 = .ok (.iconst (-1), 1) := by decide +kernel
theorem dX7_tool_24 : decode cX7_tool 24 = .ok (.ireturn, 1) := by decide +kernel
theorem dX7_tool_25 : decode cX7_tool 25 = .ok (.aload_n 0, 1) := by decide +kernel
theorem dX7_tool_26 : decode cX7_tool 26 = .ok (.getfield 35, 3) := by decide +kernel
theorem dX7_tool_29 : decode cX7_tool 29 = .ok (.iload_n 1, 1) := by decide +kernel
theorem dX7_tool_30 : decode cX7_tool 30 = .ok (.iaload, 1) := by decide +kernel
theorem dX7_tool_31 : decode cX7_tool 31 = .ok (.ifCond .ge 8, 3) := by decide +kernel
theorem dX7_tool_34 : decode cX7_tool 34 = .ok (.bipush (-4), 2) := by decide +kernel
theorem dX7_tool_36 : decode cX7_tool 36 = .ok (.goto 9, 3) := by decide +kernel
theorem dX7_tool_39 : decode cX7_tool 39 = .ok (.aload_n 0, 1) := by decide +kernel
theorem dX7_tool_40 : decode cX7_tool 40 = .ok (.getfield 35, 3) := by decide +kernel
theorem dX7_tool_43 : decode cX7_tool 43 = .ok (.iload_n 1, 1) := by decide +kernel
theorem dX7_tool_44 : decode cX7_tool 44 = .ok (.iaload, 1) := by decide +kernel
theorem dX7_tool_45 : decode cX7_tool 45 = .ok (.istore_n 3, 1) := by decide +kernel
theorem dX7_tool_46 : decode cX7_tool 46 = .ok (.aload_n 0, 1) := by decide +kernel
theorem dX7_tool_47 : decode cX7_tool 47 = .ok (.getfield 35, 3) := by decide +kernel
theorem dX7_tool_50 : decode cX7_tool 50 = .ok (.iload_n 1, 1) := by decide +kernel
theorem dX7_tool_51 : decode cX7_tool 51 = .ok (.iload_n 2, 1) := by decide +kernel
theorem dX7_tool_52 : decode cX7_tool 52 = .ok (.iastore, 1) := by decide +kernel
theorem dX7_tool_53 : decode cX7_tool 53 = .ok (.aload_n 0, 1) := by decide +kernel
theorem dX7_tool_54 : decode cX7_tool 54 = .ok (.getfield 38, 3) := by decide +kernel
theorem dX7_tool_57 : decode cX7_tool 57 = .ok (.iload_n 1, 1) := by decide +kernel
theorem dX7_tool_58 : decode cX7_tool 58 = .ok (.iconst 0, 1) := by decide +kernel
theorem dX7_tool_59 : decode cX7_tool 59 = .ok (.iastore, 1) := by decide +kernel
theorem dX7_tool_60 : decode cX7_tool 60 = .ok (.aload_n 0, 1) := by decide +kernel
theorem dX7_tool_61 : decode cX7_tool 61 = .ok (.getfield 41, 3) := by decide +kernel
theorem dX7_tool_64 : decode cX7_tool 64 = .ok (.iload_n 1, 1) := by decide +kernel
theorem dX7_tool_65 : decode cX7_tool 65 = .ok (.iconst 0, 1) := by decide +kernel
theorem dX7_tool_66 : decode cX7_tool 66 = .ok (.iastore, 1) := by decide +kernel
theorem dX7_tool_67 : decode cX7_tool 67 = .ok (.iload_n 3, 1) := by decide +kernel
theorem dX7_tool_68 : decode cX7_tool 68 = .ok (.ireturn, 1) := by decide +kernel
set_option maxRecDepth 20000 in
theorem ggX7_lay_X7_in : GoodIn wsX7_lay wsX7_in := goodIn_r _ [6] (by decide +kernel) (by decide +kernel)
set_option maxRecDepth 20000 in
theorem gX7_lay_X7_in : GoodIn wsX7_lay (va_wsS RX7 75 yX7_in wsX7_in) := goodIn_app (goodIn_of _ (by decide +kernel)) ggX7_lay_X7_in
theorem dX7_lay_0 : decode cX7_lay 0 = .ok (.aload_n 0, 1) := by decide +kernel
theorem dX7_lay_1 : decode cX7_lay 1 = .ok (.iconst 0, 1) := by decide +kernel
theorem dX7_lay_2 : decode cX7_lay 2 = .ok (.putfield 72, 3) := by decide +kernel
theorem dX7_lay_5 : decode cX7_lay 5 = .ok (.iload_n 1, 1) := by decide +kernel
theorem dX7_lay_6 : decode cX7_lay 6 = .ok (.iconst 0, 1) := by decide +kernel
theorem dX7_lay_7 : decode cX7_lay 7 = .ok (.iconst 3, 1) := by decide +kernel
theorem dX7_lay_8 : decode cX7_lay 8 = .ok (.invokestatic 75, 3) := by decide +kernel
theorem dX7_lay_11 : decode cX7_lay 11 = .ok (.ifCond .eq 13, 3) := by decide +kernel
theorem dX7_lay_14 : decode cX7_lay 14 = .ok (.iload_n 2, 1) := by decide +kernel
theorem dX7_lay_15 : decode cX7_lay 15 = .ok (.iconst 0, 1) := by decide +kernel
theorem dX7_lay_16 : decode cX7_lay 16 = .ok (.bipush 99, 2) := by decide +kernel
theorem dX7_lay_18 : decode cX7_lay 18 = .ok (.invokestatic 75, 3) := by decide +kernel
theorem dX7_lay_21 : decode cX7_lay 21 = .ok (.ifCond .ne 5, 3) := by decide +kernel
theorem dX7_lay_24 : decode cX7_lay 24 = .ok (.iconst (-1), 1) := by decide +kernel
theorem dX7_lay_25 : decode cX7_lay 25 = .ok (.ireturn, 1) := by decide +kernel
theorem dX7_lay_26 : decode cX7_lay 26 = .ok (.aload_n 0, 1) := by decide +kernel
theorem dX7_lay_27 : decode cX7_lay 27 = .ok (.getfield 57, 3) := by decide +kernel
theorem dX7_lay_30 : decode cX7_lay 30 = .ok (.iload_n 1, 1) := by decide +kernel
theorem dX7_lay_31 : decode cX7_lay 31 = .ok (.iaload, 1) := by decide +kernel
theorem dX7_lay_32 : decode cX7_lay 32 = .ok (.istore_n 3, 1) := by decide +kernel
theorem dX7_lay_33 : decode cX7_lay 33 = .ok (.aload_n 0, 1) := by decide +kernel
theorem dX7_lay_34 : decode cX7_lay 34 = .ok (.getfield 57, 3) := by decide +kernel
theorem dX7_lay_37 : decode cX7_lay 37 = .ok (.iload_n 1, 1) := by decide +kernel
theorem dX7_lay_38 : decode cX7_lay 38 = .ok (.iload_n 2, 1) := by decide +kernel
theorem dX7_lay_39 : decode cX7_lay 39 = .ok (.iastore, 1) := by decide +kernel
theorem dX7_lay_40 : decode cX7_lay 40 = .ok (.iload_n 3, 1) := by decide +kernel
theorem dX7_lay_41 : decode cX7_lay 41 = .ok (.ireturn, 1) := by decide +kernel
set_option maxRecDepth 20000 in
theorem ggX7_about_X7_in : GoodIn wsX7_about wsX7_in := goodIn_r _ [8] (by decide +kernel) (by decide +kernel)
set_option maxRecDepth 20000 in
theorem gX7_about_X7_in : GoodIn wsX7_about (va_wsS RX7 75 yX7_in wsX7_in) := goodIn_app (goodIn_of _ (by decide +kernel)) ggX7_about_X7_in
theorem dX7_about_0 : decode cX7_about 0 = .ok (.aload_n 0, 1) := by decide +kernel
theorem dX7_about_1 : decode cX7_about 1 = .ok (.iconst 0, 1) := by decide +kernel
theorem dX7_about_2 : decode cX7_about 2 = .ok (.putfield 72, 3) := by decide +kernel
theorem dX7_about_5 : decode cX7_about 5 = .ok (.iload_n 1, 1) := by decide +kernel
theorem dX7_about_6 : decode cX7_about 6 = .ok (.iconst 0, 1) := by decide +kernel
theorem dX7_about_7 : decode cX7_about 7 = .ok (.iconst 5, 1) := by decide +kernel
theorem dX7_about_8 : decode cX7_about 8 = .ok (.invokestatic 75, 3) := by decide +kernel
theorem dX7_about_11 : decode cX7_about 11 = .ok (.ifCond .eq 12, 3) := by decide +kernel
theorem dX7_about_14 : decode cX7_about 14 = .ok (.iload_n 2, 1) := by decide +kernel
theorem dX7_about_15 : decode cX7_about 15 = .ok (.iconst 0, 1) := by decide +kernel
theorem dX7_about_16 : decode cX7_about 16 = .ok (.iconst 2, 1) := by decide +kernel
theorem dX7_about_17 : decode cX7_about 17 = .ok (.invokestatic 75, 3) := by decide +kernel
theorem dX7_about_20 : decode cX7_about 20 = .ok (.ifCond .ne 5, 3) := by decide +kernel
theorem dX7_about_23 : decode cX7_about 23 = .ok (.iconst (-1), 1) := by decide +kernel
theorem dX7_about_24 : decode cX7_about 24 = .ok (.ireturn, 1) := by decide +kernel
theorem dX7_about_25 : decode cX7_about 25 = .ok (.aload_n 0, 1) := by decide +kernel
theorem dX7_about_26 : decode cX7_about 26 = .ok (.getfield 35, 3) := by decide +kernel
theorem dX7_about_29 : decode cX7_about 29 = .ok (.iload_n 1, 1) := by decide +kernel
theorem dX7_about_30 : decode cX7_about 30 = .ok (.iaload, 1) := by decide +kernel
theorem dX7_about_31 : decode cX7_about 31 = .ok (.ifCond .ge 8, 3) := by decide +kernel
theorem dX7_about_34 : decode cX7_about 34 = .ok (.bipush (-3), 2) := by decide +kernel
theorem dX7_about_36 : decode cX7_about 36 = .ok (.goto 36, 3) := by decide +kernel
theorem dX7_about_39 : decode cX7_about 39 = .ok (.iload_n 2, 1) := by decide +kernel
theorem dX7_about_40 : decode cX7_about 40 = .ok (.ifCond .ne 12, 3) := by decide +kernel
theorem dX7_about_43 : decode cX7_about 43 = .ok (.aload_n 0, 1) := by decide +kernel
theorem dX7_about_44 : decode cX7_about 44 = .ok (.getfield 38, 3) := by decide +kernel
theorem dX7_about_47 : decode cX7_about 47 = .ok (.iload_n 1, 1) := by decide +kernel
theorem dX7_about_48 : decode cX7_about 48 = .ok (.iaload, 1) := by decide +kernel
theorem dX7_about_49 : decode cX7_about 49 = .ok (.goto 23, 3) := by decide +kernel
theorem dX7_about_52 : decode cX7_about 52 = .ok (.iload_n 2, 1) := by decide +kernel
theorem dX7_about_53 : decode cX7_about 53 = .ok (.iconst 1, 1) := by decide +kernel
theorem dX7_about_54 : decode cX7_about 54 = .ok (.if_icmp .ne 12, 3) := by decide +kernel
theorem dX7_about_57 : decode cX7_about 57 = .ok (.aload_n 0, 1) := by decide +kernel
theorem dX7_about_58 : decode cX7_about 58 = .ok (.getfield 41, 3) := by decide +kernel
theorem dX7_about_61 : decode cX7_about 61 = .ok (.iload_n 1, 1) := by decide +kernel
theorem dX7_about_62 : decode cX7_about 62 = .ok (.iaload, 1) := by decide +kernel
theorem dX7_about_63 : decode cX7_about 63 = .ok (.goto 9, 3) := by decide +kernel
theorem dX7_about_66 : decode cX7_about 66 = .ok (.aload_n 0, 1) := by decide +kernel
theorem dX7_about_67 : decode cX7_about 67 = .ok (.getfield 35, 3) := by decide +kernel
theorem dX7_about_70 : decode cX7_about 70 = .ok (.iload_n 1, 1) := by decide +kernel
theorem dX7_about_71 : decode cX7_about 71 = .ok (.iaload, 1) := by decide +kernel
theorem dX7_about_72 : decode cX7_about 72 = .ok (.ireturn, 1) := by decide +kernel
set_option maxRecDepth 20000 in
theorem ggX7_places_X7_in : GoodIn wsX7_places wsX7_in := goodIn_r _ [9] (by decide +kernel) (by decide +kernel)
set_option maxRecDepth 20000 in
theorem gX7_places_X7_in : GoodIn wsX7_places (va_wsS RX7 75 yX7_in wsX7_in) := goodIn_app (goodIn_of _ (by decide +kernel)) ggX7_places_X7_in
theorem dX7_places_0 : decode cX7_places 0 = .ok (.aload_n 0, 1) := by decide +kernel
theorem dX7_places_1 : decode cX7_places 1 = .ok (.iconst 0, 1) := by decide +kernel
theorem dX7_places_2 : decode cX7_places 2 = .ok (.putfield 72, 3) := by decide +kernel
theorem dX7_places_5 : decode cX7_places 5 = .ok (.iload_n 1, 1) := by decide +kernel
theorem dX7_places_6 : decode cX7_places 6 = .ok (.iconst 0, 1) := by decide +kernel
theorem dX7_places_7 : decode cX7_places 7 = .ok (.iconst 3, 1) := by decide +kernel
theorem dX7_places_8 : decode cX7_places 8 = .ok (.invokestatic 75, 3) := by decide +kernel
theorem dX7_places_11 : decode cX7_places 11 = .ok (.ifCond .ne 5, 3) := by decide +kernel
theorem dX7_places_14 : decode cX7_places 14 = .ok (.iconst (-1), 1) := by decide +kernel
theorem dX7_places_15 : decode cX7_places 15 = .ok (.ireturn, 1) := by decide +kernel
theorem dX7_places_16 : decode cX7_places 16 = .ok (.iload_n 1, 1) := by decide +kernel
theorem dX7_places_17 : decode cX7_places 17 = .ok (.ifCond .ne 10, 3) := by decide +kernel
theorem dX7_places_20 : decode cX7_places 20 = .ok (.aload_n 0, 1) := by decide +kernel
theorem dX7_places_21 : decode cX7_places 21 = .ok (.getfield 44, 3) := by decide +kernel
theorem dX7_places_24 : decode cX7_places 24 = .ok (.goto 42, 3) := by decide +kernel
theorem dX7_places_27 : decode cX7_places 27 = .ok (.iload_n 1, 1) := by decide +kernel
theorem dX7_places_28 : decode cX7_places 28 = .ok (.iconst 1, 1) := by decide +kernel
theorem dX7_places_29 : decode cX7_places 29 = .ok (.if_icmp .ne 10, 3) := by decide +kernel
theorem dX7_places_32 : decode cX7_places 32 = .ok (.aload_n 0, 1) := by decide +kernel
theorem dX7_places_33 : decode cX7_places 33 = .ok (.getfield 48, 3) := by decide +kernel
theorem dX7_places_36 : decode cX7_places 36 = .ok (.goto 30, 3) := by decide +kernel
theorem dX7_places_39 : decode cX7_places 39 = .ok (.iload_n 1, 1) := by decide +kernel
theorem dX7_places_40 : decode cX7_places 40 = .ok (.iconst 2, 1) := by decide +kernel
theorem dX7_places_41 : decode cX7_places 41 = .ok (.if_icmp .ne 10, 3) := by decide +kernel
theorem dX7_places_44 : decode cX7_places 44 = .ok (.aload_n 0, 1) := by decide +kernel
theorem dX7_places_45 : decode cX7_places 45 = .ok (.getfield 54, 3) := by decide +kernel
theorem dX7_places_48 : decode cX7_places 48 = .ok (.goto 18, 3) := by decide +kernel
theorem dX7_places_51 : decode cX7_places 51 = .ok (.aload_n 0, 1) := by decide +kernel
theorem dX7_places_52 : decode cX7_places 52 = .ok (.getfield 54, 3) := by decide +kernel
theorem dX7_places_55 : decode cX7_places 55 = .ok (.ifCond .le 10, 3) := by decide +kernel
theorem dX7_places_58 : decode cX7_places 58 = .ok (.aload_n 0, 1) := by decide +kernel
theorem dX7_places_59 : decode cX7_places 59 = .ok (.getfield 87, 3) := by decide +kernel
theorem dX7_places_62 : decode cX7_places 62 = .ok (.goto 4, 3) := by decide +kernel
theorem dX7_places_65 : decode cX7_places 65 = .ok (.iconst (-1), 1) := by decide +kernel
theorem dX7_places_66 : decode cX7_places 66 = .ok (.istore_n 2, 1) := by decide +kernel
theorem dX7_places_67 : decode cX7_places 67 = .ok (.iload_n 2, 1) := by decide +kernel
theorem dX7_places_68 : decode cX7_places 68 = .ok (.ifCond .ge 8, 3) := by decide +kernel
theorem dX7_places_71 : decode cX7_places 71 = .ok (.bipush (-4), 2) := by decide +kernel
theorem dX7_places_73 : decode cX7_places 73 = .ok (.goto 4, 3) := by decide +kernel
theorem dX7_places_76 : decode cX7_places 76 = .ok (.iload_n 2, 1) := by decide +kernel
theorem dX7_places_77 : decode cX7_places 77 = .ok (.ireturn, 1) := by decide +kernel
set_option maxRecDepth 20000 in
theorem ggX7_box_X7_in : GoodIn wsX7_box wsX7_in := goodIn_r _ [7] (by decide +kernel) (by decide +kernel)
set_option maxRecDepth 20000 in
theorem gX7_box_X7_in : GoodIn wsX7_box (va_wsS RX7 75 yX7_in wsX7_in) := goodIn_app (goodIn_of _ (by decide +kernel)) ggX7_box_X7_in
theorem dX7_box_0 : decode cX7_box 0 = .ok (.aload_n 0, 1) := by decide +kernel
theorem dX7_box_1 : decode cX7_box 1 = .ok (.iconst 0, 1) := by decide +kernel
theorem dX7_box_2 : decode cX7_box 2 = .ok (.putfield 72, 3) := by decide +kernel
theorem dX7_box_5 : decode cX7_box 5 = .ok (.iload_n 1, 1) := by decide +kernel
theorem dX7_box_6 : decode cX7_box 6 = .ok (.iconst 0, 1) := by decide +kernel
theorem dX7_box_7 : decode cX7_box 7 = .ok (.aload_n 0, 1) := by decide +kernel
theorem dX7_box_8 : decode cX7_box 8 = .ok (.getfield 48, 3) := by decide +kernel
theorem dX7_box_11 : decode cX7_box 11 = .ok (.iconst 1, 1) := by decide +kernel
theorem dX7_box_12 : decode cX7_box 12 = .ok (.isub, 1) := by decide +kernel
theorem dX7_box_13 : decode cX7_box 13 = .ok (.invokestatic 75, 3) := by decide +kernel
theorem dX7_box_16 : decode cX7_box 16 = .ok (.ifCond .eq 21, 3) := by decide +kernel
theorem dX7_box_19 : decode cX7_box 19 = .ok (.aload_n 0, 1) := by decide +kernel
theorem dX7_box_20 : decode cX7_box 20 = .ok (.getfield 51, 3) := by decide +kernel
theorem dX7_box_23 : decode cX7_box 23 = .ok (.iload_n 1, 1) := by decide +kernel
theorem dX7_box_24 : decode cX7_box 24 = .ok (.iaload, 1) := by decide +kernel
theorem dX7_box_25 : decode cX7_box 25 = .ok (.ifCond .lt 12, 3) := by decide +kernel
theorem dX7_box_28 : decode cX7_box 28 = .ok (.aload_n 0, 1) := by decide +kernel
theorem dX7_box_29 : decode cX7_box 29 = .ok (.getfield 51, 3) := by decide +kernel
theorem dX7_box_32 : decode cX7_box 32 = .ok (.iload_n 1, 1) := by decide +kernel
theorem dX7_box_33 : decode cX7_box 33 = .ok (.iaload, 1) := by decide +kernel
theorem dX7_box_34 : decode cX7_box 34 = .ok (.goto 5, 3) := by decide +kernel
theorem dX7_box_37 : decode cX7_box 37 = .ok (.bipush (-4), 2) := by decide +kernel
theorem dX7_box_39 : decode cX7_box 39 = .ok (.ireturn, 1) := by decide +kernel
theorem dX7_mark_0 : decode cX7_mark 0 = .ok (.aload_n 0, 1) := by decide +kernel
theorem dX7_mark_1 : decode cX7_mark 1 = .ok (.getfield 60, 3) := by decide +kernel
theorem dX7_mark_4 : decode cX7_mark 4 = .ok (.bipush 7, 2) := by decide +kernel
theorem dX7_mark_6 : decode cX7_mark 6 = .ok (.iaload, 1) := by decide +kernel
theorem dX7_mark_7 : decode cX7_mark 7 = .ok (.sipush 400, 3) := by decide +kernel
theorem dX7_mark_10 : decode cX7_mark 10 = .ok (.if_icmp .ge 16, 3) := by decide +kernel
theorem dX7_mark_13 : decode cX7_mark 13 = .ok (.aload_n 0, 1) := by decide +kernel
theorem dX7_mark_14 : decode cX7_mark 14 = .ok (.getfield 63, 3) := by decide +kernel
theorem dX7_mark_17 : decode cX7_mark 17 = .ok (.aload_n 0, 1) := by decide +kernel
theorem dX7_mark_18 : decode cX7_mark 18 = .ok (.getfield 60, 3) := by decide +kernel
theorem dX7_mark_21 : decode cX7_mark 21 = .ok (.bipush 7, 2) := by decide +kernel
theorem dX7_mark_23 : decode cX7_mark 23 = .ok (.iaload, 1) := by decide +kernel
theorem dX7_mark_24 : decode cX7_mark 24 = .ok (.iload_n 1, 1) := by decide +kernel
theorem dX7_mark_25 : decode cX7_mark 25 = .ok (.iastore, 1) := by decide +kernel
theorem dX7_mark_26 : decode cX7_mark 26 = .ok (.aload_n 0, 1) := by decide +kernel
theorem dX7_mark_27 : decode cX7_mark 27 = .ok (.getfield 60, 3) := by decide +kernel
theorem dX7_mark_30 : decode cX7_mark 30 = .ok (.bipush 7, 2) := by decide +kernel
theorem dX7_mark_32 : decode cX7_mark 32 = .ok (.dup2, 1) := by decide +kernel
theorem dX7_mark_33 : decode cX7_mark 33 = .ok (.iaload, 1) := by decide +kernel
theorem dX7_mark_34 : decode cX7_mark 34 = .ok (.iconst 1, 1) := by decide +kernel
theorem dX7_mark_35 : decode cX7_mark 35 = .ok (.iadd, 1) := by decide +kernel
theorem dX7_mark_36 : decode cX7_mark 36 = .ok (.iastore, 1) := by decide +kernel
theorem dX7_mark_37 : decode cX7_mark 37 = .ok (.aload_n 0, 1) := by decide +kernel
theorem dX7_mark_38 : decode cX7_mark 38 = .ok (.getfield 60, 3) := by decide +kernel
theorem dX7_mark_41 : decode cX7_mark 41 = .ok (.iload_n 1, 1) := by decide +kernel
theorem dX7_mark_42 : decode cX7_mark 42 = .ok (.iconst 1, 1) := by decide +kernel
theorem dX7_mark_43 : decode cX7_mark 43 = .ok (.isub, 1) := by decide +kernel
theorem dX7_mark_44 : decode cX7_mark 44 = .ok (.dup2, 1) := by decide +kernel
theorem dX7_mark_45 : decode cX7_mark 45 = .ok (.iaload, 1) := by decide +kernel
theorem dX7_mark_46 : decode cX7_mark 46 = .ok (.iconst 1, 1) := by decide +kernel
theorem dX7_mark_47 : decode cX7_mark 47 = .ok (.iadd, 1) := by decide +kernel
theorem dX7_mark_48 : decode cX7_mark 48 = .ok (.iastore, 1) := by decide +kernel
theorem dX7_mark_49 : decode cX7_mark 49 = .ok (.return_, 1) := by decide +kernel
set_option maxRecDepth 20000 in
theorem ggX7_fails_X7_in : GoodIn wsX7_fails wsX7_in := goodIn_r _ [6] (by decide +kernel) (by decide +kernel)
set_option maxRecDepth 20000 in
theorem gX7_fails_X7_in : GoodIn wsX7_fails (va_wsS RX7 75 yX7_in wsX7_in) := goodIn_app (goodIn_of _ (by decide +kernel)) ggX7_fails_X7_in
theorem dX7_fails_0 : decode cX7_fails 0 = .ok (.aload_n 0, 1) := by decide +kernel
theorem dX7_fails_1 : decode cX7_fails 1 = .ok (.iload_n 1, 1) := by decide +kernel
theorem dX7_fails_2 : decode cX7_fails 2 = .ok (.putfield 90, 3) := by decide +kernel
theorem dX7_fails_5 : decode cX7_fails 5 = .ok (.aload_n 0, 1) := by decide +kernel
theorem dX7_fails_6 : decode cX7_fails 6 = .ok (.iload_n 1, 1) := by decide +kernel
theorem dX7_fails_7 : decode cX7_fails 7 = .ok (.iconst 3, 1) := by decide +kernel
theorem dX7_fails_8 : decode cX7_fails 8 = .ok (.bipush 8, 2) := by decide +kernel
theorem dX7_fails_10 : decode cX7_fails 10 = .ok (.invokestatic 75, 3) := by decide +kernel
theorem dX7_fails_13 : decode cX7_fails 13 = .ok (.putfield 93, 3) := by decide +kernel
theorem dX7_fails_16 : decode cX7_fails 16 = .ok (.iconst 5, 1) := by decide +kernel
theorem dX7_fails_17 : decode cX7_fails 17 = .ok (.ireturn, 1) := by decide +kernel
set_option maxRecDepth 20000 in
theorem ggX7_more_X7_fails : GoodIn wsX7_more wsX7_fails := goodIn_r _ [6, 7, 8, 9, 10, 5, 11, 12, 13, 14, 15, 16, 17, 18, 19, 20, 21, 22, 23, 24, 25, 26, 27, 28, 29, 30, 31, 32, 33, 34, 35, 36, 37, 38, 39] (by decide +kernel) (by decide +kernel)
set_option maxRecDepth 20000 in
theorem gX7_more_X7_fails : GoodIn wsX7_more (wsV RX7 97 RX7 yX7_fails wsX7_fails) := goodIn_app (goodIn_of _ (by decide +kernel)) ggX7_more_X7_fails
theorem dX7_more_0 : decode cX7_more 0 = .ok (.aload_n 0, 1) := by decide +kernel
theorem dX7_more_1 : decode cX7_more 1 = .ok (.getfield 13, 3) := by decide +kernel
theorem dX7_more_4 : decode cX7_more 4 = .ok (.iload_n 1, 1) := by decide +kernel
theorem dX7_more_5 : decode cX7_more 5 = .ok (.iaload, 1) := by decide +kernel
theorem dX7_more_6 : decode cX7_more 6 = .ok (.iload_n 2, 1) := by decide +kernel
theorem dX7_more_7 : decode cX7_more 7 = .ok (.iadd, 1) := by decide +kernel
theorem dX7_more_8 : decode cX7_more 8 = .ok (.sipush 1000, 3) := by decide +kernel
theorem dX7_more_11 : decode cX7_more 11 = .ok (.if_icmp .le 9, 3) := by decide +kernel
theorem dX7_more_14 : decode cX7_more 14 = .ok (.aload_n 0, 1) := by decide +kernel
theorem dX7_more_15 : decode cX7_more 15 = .ok (.iconst 1, 1) := by decide +kernel
theorem dX7_more_16 : decode cX7_more 16 = .ok (.invokevirtual 97, 3) := by decide +kernel
theorem dX7_more_19 : decode cX7_more 19 = .ok (.ireturn, 1) := by decide +kernel
theorem dX7_more_20 : decode cX7_more 20 = .ok (.aload_n 0, 1) := by decide +kernel
theorem dX7_more_21 : decode cX7_more 21 = .ok (.getfield 13, 3) := by decide +kernel
theorem dX7_more_24 : decode cX7_more 24 = .ok (.iload_n 1, 1) := by decide +kernel
theorem dX7_more_25 : decode cX7_more 25 = .ok (.dup2, 1) := by decide +kernel
theorem dX7_more_26 : decode cX7_more 26 = .ok (.iaload, 1) := by decide +kernel
theorem dX7_more_27 : decode cX7_more 27 = .ok (.iload_n 2, 1) := by decide +kernel
theorem dX7_more_28 : decode cX7_more 28 = .ok (.iadd, 1) := by decide +kernel
theorem dX7_more_29 : decode cX7_more 29 = .ok (.iastore, 1) := by decide +kernel
theorem dX7_more_30 : decode cX7_more 30 = .ok (.iconst 0, 1) := by decide +kernel
theorem dX7_more_31 : decode cX7_more 31 = .ok (.ireturn, 1) := by decide +kernel
set_option maxRecDepth 20000 in
theorem ggX7_pours_X7_fails : GoodIn wsX7_pours wsX7_fails := goodIn_r _ [7, 8, 9, 10, 11, 6, 12, 13, 14, 15, 16, 17, 18, 19, 20, 21, 22, 23, 24, 25, 26, 27, 28, 29, 30, 31, 32, 33, 34, 35, 36, 37, 38, 39, 40] (by decide +kernel) (by decide +kernel)
set_option maxRecDepth 20000 in
theorem gX7_pours_X7_fails : GoodIn wsX7_pours (wsV RX7 97 RX7 yX7_fails wsX7_fails) := goodIn_app (goodIn_of _ (by decide +kernel)) ggX7_pours_X7_fails
theorem dX7_pours_0 : decode cX7_pours 0 = .ok (.iload_n 2, 1) := by decide +kernel
theorem dX7_pours_1 : decode cX7_pours 1 = .ok (.bipush 7, 2) := by decide +kernel
theorem dX7_pours_3 : decode cX7_pours 3 = .ok (.if_icmp .le 9, 3) := by decide +kernel
theorem dX7_pours_6 : decode cX7_pours 6 = .ok (.aload_n 0, 1) := by decide +kernel
theorem dX7_pours_7 : decode cX7_pours 7 = .ok (.iconst 4, 1) := by decide +kernel
theorem dX7_pours_8 : decode cX7_pours 8 = .ok (.invokevirtual 97, 3) := by decide +kernel
theorem dX7_pours_11 : decode cX7_pours 11 = .ok (.ireturn, 1) := by decide +kernel
theorem dX7_pours_12 : decode cX7_pours 12 = .ok (.aload_n 0, 1) := by decide +kernel
theorem dX7_pours_13 : decode cX7_pours 13 = .ok (.getfield 7, 3) := by decide +kernel
theorem dX7_pours_16 : decode cX7_pours 16 = .ok (.iload_n 2, 1) := by decide +kernel
theorem dX7_pours_17 : decode cX7_pours 17 = .ok (.baload, 1) := by decide +kernel
theorem dX7_pours_18 : decode cX7_pours 18 = .ok (.ifCond .ne 9, 3) := by decide +kernel
theorem dX7_pours_21 : decode cX7_pours 21 = .ok (.aload_n 0, 1) := by decide +kernel
theorem dX7_pours_22 : decode cX7_pours 22 = .ok (.iconst 5, 1) := by decide +kernel
theorem dX7_pours_23 : decode cX7_pours 23 = .ok (.invokevirtual 97, 3) := by decide +kernel
theorem dX7_pours_26 : decode cX7_pours 26 = .ok (.ireturn, 1) := by decide +kernel
theorem dX7_pours_27 : decode cX7_pours 27 = .ok (.iload_n 2, 1) := by decide +kernel
theorem dX7_pours_28 : decode cX7_pours 28 = .ok (.iload_n 1, 1) := by decide +kernel
theorem dX7_pours_29 : decode cX7_pours 29 = .ok (.if_icmp .ne 5, 3) := by decide +kernel
theorem dX7_pours_32 : decode cX7_pours 32 = .ok (.iconst 0, 1) := by decide +kernel
theorem dX7_pours_33 : decode cX7_pours 33 = .ok (.ireturn, 1) := by decide +kernel
theorem dX7_pours_34 : decode cX7_pours 34 = .ok (.aload_n 0, 1) := by decide +kernel
theorem dX7_pours_35 : decode cX7_pours 35 = .ok (.getfield 13, 3) := by decide +kernel
theorem dX7_pours_38 : decode cX7_pours 38 = .ok (.iload_n 2, 1) := by decide +kernel
theorem dX7_pours_39 : decode cX7_pours 39 = .ok (.iaload, 1) := by decide +kernel
theorem dX7_pours_40 : decode cX7_pours 40 = .ok (.aload_n 0, 1) := by decide +kernel
theorem dX7_pours_41 : decode cX7_pours 41 = .ok (.getfield 13, 3) := by decide +kernel
theorem dX7_pours_44 : decode cX7_pours 44 = .ok (.iload_n 1, 1) := by decide +kernel
theorem dX7_pours_45 : decode cX7_pours 45 = .ok (.iaload, 1) := by decide +kernel
theorem dX7_pours_46 : decode cX7_pours 46 = .ok (.iadd, 1) := by decide +kernel
theorem dX7_pours_47 : decode cX7_pours 47 = .ok (.sipush 1000, 3) := by decide +kernel
theorem dX7_pours_50 : decode cX7_pours 50 = .ok (.if_icmp .le 9, 3) := by decide +kernel
theorem dX7_pours_53 : decode cX7_pours 53 = .ok (.aload_n 0, 1) := by decide +kernel
theorem dX7_pours_54 : decode cX7_pours 54 = .ok (.iconst 1, 1) := by decide +kernel
theorem dX7_pours_55 : decode cX7_pours 55 = .ok (.invokevirtual 97, 3) := by decide +kernel
theorem dX7_pours_58 : decode cX7_pours 58 = .ok (.ireturn, 1) := by decide +kernel
theorem dX7_pours_59 : decode cX7_pours 59 = .ok (.aload_n 0, 1) := by decide +kernel
theorem dX7_pours_60 : decode cX7_pours 60 = .ok (.getfield 13, 3) := by decide +kernel
theorem dX7_pours_63 : decode cX7_pours 63 = .ok (.iload_n 2, 1) := by decide +kernel
theorem dX7_pours_64 : decode cX7_pours 64 = .ok (.dup2, 1) := by decide +kernel
theorem dX7_pours_65 : decode cX7_pours 65 = .ok (.iaload, 1) := by decide +kernel
theorem dX7_pours_66 : decode cX7_pours 66 = .ok (.aload_n 0, 1) := by decide +kernel
theorem dX7_pours_67 : decode cX7_pours 67 = .ok (.getfield 13, 3) := by decide +kernel
theorem dX7_pours_70 : decode cX7_pours 70 = .ok (.iload_n 1, 1) := by decide +kernel
theorem dX7_pours_71 : decode cX7_pours 71 = .ok (.iaload, 1) := by decide +kernel
theorem dX7_pours_72 : decode cX7_pours 72 = .ok (.iadd, 1) := by decide +kernel
theorem dX7_pours_73 : decode cX7_pours 73 = .ok (.iastore, 1) := by decide +kernel
theorem dX7_pours_74 : decode cX7_pours 74 = .ok (.aload_n 0, 1) := by decide +kernel
theorem dX7_pours_75 : decode cX7_pours 75 = .ok (.getfield 13, 3) := by decide +kernel
theorem dX7_pours_78 : decode cX7_pours 78 = .ok (.iload_n 1, 1) := by decide +kernel
theorem dX7_pours_79 : decode cX7_pours 79 = .ok (.iconst 0, 1) := by decide +kernel
theorem dX7_pours_80 : decode cX7_pours 80 = .ok (.iastore, 1) := by decide +kernel
theorem dX7_pours_81 : decode cX7_pours 81 = .ok (.iconst 0, 1) := by decide +kernel
theorem dX7_pours_82 : decode cX7_pours 82 = .ok (.ireturn, 1) := by decide +kernel
set_option maxRecDepth 20000 in
theorem ggX7_grips_X7_fails : GoodIn wsX7_grips wsX7_fails := goodIn_r _ [8, 9, 10, 11, 12, 7, 13, 14, 15, 16, 17, 18, 19, 20, 21, 22, 23, 24, 25, 26, 27, 28, 29, 30, 31, 32, 33, 34, 35, 36, 37, 38, 39, 40, 41] (by decide +kernel) (by decide +kernel)
set_option maxRecDepth 20000 in
theorem gX7_grips_X7_fails : GoodIn wsX7_grips (wsV RX7 97 RX7 yX7_fails wsX7_fails) := goodIn_app (goodIn_of _ (by decide +kernel)) ggX7_grips_X7_fails
theorem dX7_grips_0 : decode cX7_grips 0 = .ok (.iload_n 1, 1) := by decide +kernel
theorem dX7_grips_1 : decode cX7_grips 1 = .ok (.iconst 5, 1) := by decide +kernel
theorem dX7_grips_2 : decode cX7_grips 2 = .ok (.if_icmp .le 9, 3) := by decide +kernel
theorem dX7_grips_5 : decode cX7_grips 5 = .ok (.aload_n 0, 1) := by decide +kernel
theorem dX7_grips_6 : decode cX7_grips 6 = .ok (.iconst 4, 1) := by decide +kernel
theorem dX7_grips_7 : decode cX7_grips 7 = .ok (.invokevirtual 97, 3) := by decide +kernel
theorem dX7_grips_10 : decode cX7_grips 10 = .ok (.ireturn, 1) := by decide +kernel
theorem dX7_grips_11 : decode cX7_grips 11 = .ok (.aload_n 0, 1) := by decide +kernel
theorem dX7_grips_12 : decode cX7_grips 12 = .ok (.getfield 35, 3) := by decide +kernel
theorem dX7_grips_15 : decode cX7_grips 15 = .ok (.iload_n 1, 1) := by decide +kernel
theorem dX7_grips_16 : decode cX7_grips 16 = .ok (.iaload, 1) := by decide +kernel
theorem dX7_grips_17 : decode cX7_grips 17 = .ok (.ifCond .eq 24, 3) := by decide +kernel
theorem dX7_grips_20 : decode cX7_grips 20 = .ok (.aload_n 0, 1) := by decide +kernel
theorem dX7_grips_21 : decode cX7_grips 21 = .ok (.aload_n 0, 1) := by decide +kernel
theorem dX7_grips_22 : decode cX7_grips 22 = .ok (.getfield 35, 3) := by decide +kernel
theorem dX7_grips_25 : decode cX7_grips 25 = .ok (.iload_n 1, 1) := by decide +kernel
theorem dX7_grips_26 : decode cX7_grips 26 = .ok (.iaload, 1) := by decide +kernel
theorem dX7_grips_27 : decode cX7_grips 27 = .ok (.iconst 1, 1) := by decide +kernel
theorem dX7_grips_28 : decode cX7_grips 28 = .ok (.if_icmp .ne 8, 3) := by decide +kernel
theorem dX7_grips_31 : decode cX7_grips 31 = .ok (.bipush 7, 2) := by decide +kernel
theorem dX7_grips_33 : decode cX7_grips 33 = .ok (.goto 4, 3) := by decide +kernel
theorem dX7_grips_36 : decode cX7_grips 36 = .ok (.iconst 5, 1) := by decide +kernel
theorem dX7_grips_37 : decode cX7_grips 37 = .ok (.invokevirtual 97, 3) := by decide +kernel
theorem dX7_grips_40 : decode cX7_grips 40 = .ok (.ireturn, 1) := by decide +kernel
theorem dX7_grips_41 : decode cX7_grips 41 = .ok (.aload_n 0, 1) := by decide +kernel
theorem dX7_grips_42 : decode cX7_grips 42 = .ok (.getfield 41, 3) := by decide +kernel
theorem dX7_grips_45 : decode cX7_grips 45 = .ok (.iload_n 1, 1) := by decide +kernel
theorem dX7_grips_46 : decode cX7_grips 46 = .ok (.dup2, 1) := by decide +kernel
theorem dX7_grips_47 : decode cX7_grips 47 = .ok (.iaload, 1) := by decide +kernel
theorem dX7_grips_48 : decode cX7_grips 48 = .ok (.aload_n 0, 1) := by decide +kernel
theorem dX7_grips_49 : decode cX7_grips 49 = .ok (.getfield 13, 3) := by decide +kernel
theorem dX7_grips_52 : decode cX7_grips 52 = .ok (.iload_n 2, 1) := by decide +kernel
theorem dX7_grips_53 : decode cX7_grips 53 = .ok (.iaload, 1) := by decide +kernel
theorem dX7_grips_54 : decode cX7_grips 54 = .ok (.iadd, 1) := by decide +kernel
theorem dX7_grips_55 : decode cX7_grips 55 = .ok (.iastore, 1) := by decide +kernel
theorem dX7_grips_56 : decode cX7_grips 56 = .ok (.iconst 0, 1) := by decide +kernel
theorem dX7_grips_57 : decode cX7_grips 57 = .ok (.ireturn, 1) := by decide +kernel
set_option maxRecDepth 20000 in
theorem ggX7_uses_X7_fails : GoodIn wsX7_uses wsX7_fails := goodIn_r _ [7, 8, 9, 10, 11, 6, 12, 13, 14, 15, 16, 17, 18, 19, 20, 21, 22, 23, 24, 25, 26, 27, 28, 29, 30, 31, 32, 33, 34, 35, 36, 37, 38, 39, 40] (by decide +kernel) (by decide +kernel)
set_option maxRecDepth 20000 in
theorem gX7_uses_X7_fails : GoodIn wsX7_uses (wsV RX7 97 RX7 yX7_fails wsX7_fails) := goodIn_app (goodIn_of _ (by decide +kernel)) ggX7_uses_X7_fails
theorem dX7_uses_0 : decode cX7_uses 0 = .ok (.iload_n 1, 1) := by decide +kernel
theorem dX7_uses_1 : decode cX7_uses 1 = .ok (.iconst 5, 1) := by decide +kernel
theorem dX7_uses_2 : decode cX7_uses 2 = .ok (.if_icmp .gt 12, 3) := by decide +kernel
theorem dX7_uses_5 : decode cX7_uses 5 = .ok (.aload_n 0, 1) := by decide +kernel
theorem dX7_uses_6 : decode cX7_uses 6 = .ok (.getfield 35, 3) := by decide +kernel
theorem dX7_uses_9 : decode cX7_uses 9 = .ok (.iload_n 1, 1) := by decide +kernel
theorem dX7_uses_10 : decode cX7_uses 10 = .ok (.iaload, 1) := by decide +kernel
theorem dX7_uses_11 : decode cX7_uses 11 = .ok (.ifCond .ge 18, 3) := by decide +kernel
theorem dX7_uses_14 : decode cX7_uses 14 = .ok (.aload_n 0, 1) := by decide +kernel
theorem dX7_uses_15 : decode cX7_uses 15 = .ok (.iload_n 1, 1) := by decide +kernel
theorem dX7_uses_16 : decode cX7_uses 16 = .ok (.iconst 5, 1) := by decide +kernel
theorem dX7_uses_17 : decode cX7_uses 17 = .ok (.if_icmp .le 7, 3) := by decide +kernel
theorem dX7_uses_20 : decode cX7_uses 20 = .ok (.iconst 4, 1) := by decide +kernel
theorem dX7_uses_21 : decode cX7_uses 21 = .ok (.goto 4, 3) := by decide +kernel
theorem dX7_uses_24 : decode cX7_uses 24 = .ok (.iconst 5, 1) := by decide +kernel
theorem dX7_uses_25 : decode cX7_uses 25 = .ok (.invokevirtual 97, 3) := by decide +kernel
theorem dX7_uses_28 : decode cX7_uses 28 = .ok (.ireturn, 1) := by decide +kernel
theorem dX7_uses_29 : decode cX7_uses 29 = .ok (.aload_n 0, 1) := by decide +kernel
theorem dX7_uses_30 : decode cX7_uses 30 = .ok (.getfield 38, 3) := by decide +kernel
theorem dX7_uses_33 : decode cX7_uses 33 = .ok (.iload_n 1, 1) := by decide +kernel
theorem dX7_uses_34 : decode cX7_uses 34 = .ok (.dup2, 1) := by decide +kernel
theorem dX7_uses_35 : decode cX7_uses 35 = .ok (.iaload, 1) := by decide +kernel
theorem dX7_uses_36 : decode cX7_uses 36 = .ok (.iconst 1, 1) := by decide +kernel
theorem dX7_uses_37 : decode cX7_uses 37 = .ok (.iadd, 1) := by decide +kernel
theorem dX7_uses_38 : decode cX7_uses 38 = .ok (.iastore, 1) := by decide +kernel
theorem dX7_uses_39 : decode cX7_uses 39 = .ok (.iconst 0, 1) := by decide +kernel
theorem dX7_uses_40 : decode cX7_uses 40 = .ok (.ireturn, 1) := by decide +kernel
set_option maxRecDepth 20000 in
theorem ggX7_boxes_X7_fails : GoodIn wsX7_boxes wsX7_fails := goodIn_r _ [8, 9, 10, 11, 12, 7, 13, 14, 15, 16, 17, 18, 19, 20, 21, 22, 23, 24, 25, 26, 27, 28, 29, 30, 31, 32, 33, 34, 35, 36, 37, 38, 39, 40, 41] (by decide +kernel) (by decide +kernel)
set_option maxRecDepth 20000 in
theorem gX7_boxes_X7_fails : GoodIn wsX7_boxes (wsV RX7 97 RX7 yX7_fails wsX7_fails) := goodIn_app (goodIn_of _ (by decide +kernel)) ggX7_boxes_X7_fails
theorem dX7_boxes_0 : decode cX7_boxes 0 = .ok (.iload_n 1, 1) := by decide +kernel
theorem dX7_boxes_1 : decode cX7_boxes 1 = .ok (.ifCond .ge 10, 3) := by decide +kernel
theorem dX7_boxes_4 : decode cX7_boxes 4 = .ok (.aload_n 0, 1) := by decide +kernel
theorem dX7_boxes_5 : decode cX7_boxes 5 = .ok (.bipush 6, 2) := by decide +kernel
theorem dX7_boxes_7 : decode cX7_boxes 7 = .ok (.invokevirtual 97, 3) := by decide +kernel
theorem dX7_boxes_10 : decode cX7_boxes 10 = .ok (.ireturn, 1) := by decide +kernel
theorem dX7_boxes_11 : decode cX7_boxes 11 = .ok (.aload_n 0, 1) := by decide +kernel
theorem dX7_boxes_12 : decode cX7_boxes 12 = .ok (.iload_n 1, 1) := by decide +kernel
theorem dX7_boxes_13 : decode cX7_boxes 13 = .ok (.putfield 48, 3) := by decide +kernel
theorem dX7_boxes_16 : decode cX7_boxes 16 = .ok (.aload_n 0, 1) := by decide +kernel
theorem dX7_boxes_17 : decode cX7_boxes 17 = .ok (.iload_n 2, 1) := by decide +kernel
theorem dX7_boxes_18 : decode cX7_boxes 18 = .ok (.putfield 100, 3) := by decide +kernel
theorem dX7_boxes_21 : decode cX7_boxes 21 = .ok (.iconst 0, 1) := by decide +kernel
theorem dX7_boxes_22 : decode cX7_boxes 22 = .ok (.istore_n 3, 1) := by decide +kernel
theorem dX7_boxes_23 : decode cX7_boxes 23 = .ok (.iload_n 3, 1) := by decide +kernel
theorem dX7_boxes_24 : decode cX7_boxes 24 = .ok (.bipush 20, 2) := by decide +kernel
theorem dX7_boxes_26 : decode cX7_boxes 26 = .ok (.if_icmp .ge 16, 3) := by decide +kernel
theorem dX7_boxes_29 : decode cX7_boxes 29 = .ok (.aload_n 0, 1) := by decide +kernel
theorem dX7_boxes_30 : decode cX7_boxes 30 = .ok (.getfield 51, 3) := by decide +kernel
theorem dX7_boxes_33 : decode cX7_boxes 33 = .ok (.iload_n 3, 1) := by decide +kernel
theorem dX7_boxes_34 : decode cX7_boxes 34 = .ok (.iconst (-1), 1) := by decide +kernel
theorem dX7_boxes_35 : decode cX7_boxes 35 = .ok (.iastore, 1) := by decide +kernel
theorem dX7_boxes_36 : decode cX7_boxes 36 = .ok (.iinc 3 1, 3) := by decide +kernel
theorem dX7_boxes_39 : decode cX7_boxes 39 = .ok (.goto (-16), 3) := by decide +kernel
theorem dX7_boxes_42 : decode cX7_boxes 42 = .ok (.iconst 0, 1) := by decide +kernel
theorem dX7_boxes_43 : decode cX7_boxes 43 = .ok (.ireturn, 1) := by decide +kernel
set_option maxRecDepth 20000 in
theorem ggX7_grids_X7_fails : GoodIn wsX7_grids wsX7_fails := goodIn_r _ [7, 8, 9, 10, 11, 6, 12, 13, 14, 15, 16, 17, 18, 19, 20, 21, 22, 23, 24, 25, 26, 27, 28, 29, 30, 31, 32, 33, 34, 35, 36, 37, 38, 39, 40] (by decide +kernel) (by decide +kernel)
set_option maxRecDepth 20000 in
theorem gX7_grids_X7_fails : GoodIn wsX7_grids (wsV RX7 97 RX7 yX7_fails wsX7_fails) := goodIn_app (goodIn_of _ (by decide +kernel)) ggX7_grids_X7_fails
theorem dX7_grids_0 : decode cX7_grids 0 = .ok (.iload_n 1, 1) := by decide +kernel
theorem dX7_grids_1 : decode cX7_grids 1 = .ok (.ifCond .lt 7, 3) := by decide +kernel
theorem dX7_grids_4 : decode cX7_grids 4 = .ok (.iload_n 2, 1) := by decide +kernel
theorem dX7_grids_5 : decode cX7_grids 5 = .ok (.ifCond .ge 10, 3) := by decide +kernel
theorem dX7_grids_8 : decode cX7_grids 8 = .ok (.aload_n 0, 1) := by decide +kernel
theorem dX7_grids_9 : decode cX7_grids 9 = .ok (.bipush 6, 2) := by decide +kernel
theorem dX7_grids_11 : decode cX7_grids 11 = .ok (.invokevirtual 97, 3) := by decide +kernel
theorem dX7_grids_14 : decode cX7_grids 14 = .ok (.ireturn, 1) := by decide +kernel
theorem dX7_grids_15 : decode cX7_grids 15 = .ok (.aload_n 0, 1) := by decide +kernel
theorem dX7_grids_16 : decode cX7_grids 16 = .ok (.iload_n 1, 1) := by decide +kernel
theorem dX7_grids_17 : decode cX7_grids 17 = .ok (.putfield 54, 3) := by decide +kernel
theorem dX7_grids_20 : decode cX7_grids 20 = .ok (.aload_n 0, 1) := by decide +kernel
theorem dX7_grids_21 : decode cX7_grids 21 = .ok (.iload_n 2, 1) := by decide +kernel
theorem dX7_grids_22 : decode cX7_grids 22 = .ok (.putfield 87, 3) := by decide +kernel
theorem dX7_grids_25 : decode cX7_grids 25 = .ok (.iconst 0, 1) := by decide +kernel
theorem dX7_grids_26 : decode cX7_grids 26 = .ok (.ireturn, 1) := by decide +kernel
set_option maxRecDepth 20000 in
theorem ggX7_puts_X7_fails : GoodIn wsX7_puts wsX7_fails := goodIn_r _ [9, 10, 11, 12, 13, 8, 14, 15, 16, 17, 18, 19, 20, 21, 22, 23, 24, 25, 26, 27, 28, 29, 30, 31, 32, 33, 34, 35, 36, 37, 38, 39, 40, 41, 42] (by decide +kernel) (by decide +kernel)
set_option maxRecDepth 20000 in
theorem gX7_puts_X7_fails : GoodIn wsX7_puts (wsV RX7 97 RX7 yX7_fails wsX7_fails) := goodIn_app (goodIn_of _ (by decide +kernel)) ggX7_puts_X7_fails
theorem dX7_puts_0 : decode cX7_puts 0 = .ok (.iload_n 1, 1) := by decide +kernel
theorem dX7_puts_1 : decode cX7_puts 1 = .ok (.iconst 5, 1) := by decide +kernel
theorem dX7_puts_2 : decode cX7_puts 2 = .ok (.if_icmp .le 9, 3) := by decide +kernel
theorem dX7_puts_5 : decode cX7_puts 5 = .ok (.aload_n 0, 1) := by decide +kernel
theorem dX7_puts_6 : decode cX7_puts 6 = .ok (.iconst 4, 1) := by decide +kernel
theorem dX7_puts_7 : decode cX7_puts 7 = .ok (.invokevirtual 97, 3) := by decide +kernel
theorem dX7_puts_10 : decode cX7_puts 10 = .ok (.ireturn, 1) := by decide +kernel
theorem dX7_puts_11 : decode cX7_puts 11 = .ok (.aload_n 0, 1) := by decide +kernel
theorem dX7_puts_12 : decode cX7_puts 12 = .ok (.getfield 48, 3) := by decide +kernel
theorem dX7_puts_15 : decode cX7_puts 15 = .ok (.ifCond .ge 9, 3) := by decide +kernel
theorem dX7_puts_18 : decode cX7_puts 18 = .ok (.aload_n 0, 1) := by decide +kernel
theorem dX7_puts_19 : decode cX7_puts 19 = .ok (.iconst 5, 1) := by decide +kernel
theorem dX7_puts_20 : decode cX7_puts 20 = .ok (.invokevirtual 97, 3) := by decide +kernel
theorem dX7_puts_23 : decode cX7_puts 23 = .ok (.ireturn, 1) := by decide +kernel
theorem dX7_puts_24 : decode cX7_puts 24 = .ok (.iload_n 2, 1) := by decide +kernel
theorem dX7_puts_25 : decode cX7_puts 25 = .ok (.aload_n 0, 1) := by decide +kernel
theorem dX7_puts_26 : decode cX7_puts 26 = .ok (.getfield 48, 3) := by decide +kernel
theorem dX7_puts_29 : decode cX7_puts 29 = .ok (.if_icmp .lt 9, 3) := by decide +kernel
theorem dX7_puts_32 : decode cX7_puts 32 = .ok (.aload_n 0, 1) := by decide +kernel
theorem dX7_puts_33 : decode cX7_puts 33 = .ok (.iconst 4, 1) := by decide +kernel
theorem dX7_puts_34 : decode cX7_puts 34 = .ok (.invokevirtual 97, 3) := by decide +kernel
theorem dX7_puts_37 : decode cX7_puts 37 = .ok (.ireturn, 1) := by decide +kernel
theorem dX7_puts_38 : decode cX7_puts 38 = .ok (.aload_n 0, 1) := by decide +kernel
theorem dX7_puts_39 : decode cX7_puts 39 = .ok (.getfield 35, 3) := by decide +kernel
theorem dX7_puts_42 : decode cX7_puts 42 = .ok (.iload_n 1, 1) := by decide +kernel
theorem dX7_puts_43 : decode cX7_puts 43 = .ok (.iaload, 1) := by decide +kernel
theorem dX7_puts_44 : decode cX7_puts 44 = .ok (.ifCond .lt 31, 3) := by decide +kernel
theorem dX7_puts_47 : decode cX7_puts 47 = .ok (.aload_n 0, 1) := by decide +kernel
theorem dX7_puts_48 : decode cX7_puts 48 = .ok (.getfield 100, 3) := by decide +kernel
theorem dX7_puts_51 : decode cX7_puts 51 = .ok (.iconst 2, 1) := by decide +kernel
theorem dX7_puts_52 : decode cX7_puts 52 = .ok (.if_icmp .ge 23, 3) := by decide +kernel
theorem dX7_puts_55 : decode cX7_puts 55 = .ok (.aload_n 0, 1) := by decide +kernel
theorem dX7_puts_56 : decode cX7_puts 56 = .ok (.getfield 35, 3) := by decide +kernel
theorem dX7_puts_59 : decode cX7_puts 59 = .ok (.iload_n 1, 1) := by decide +kernel
theorem dX7_puts_60 : decode cX7_puts 60 = .ok (.iaload, 1) := by decide +kernel
theorem dX7_puts_61 : decode cX7_puts 61 = .ok (.aload_n 0, 1) := by decide +kernel
theorem dX7_puts_62 : decode cX7_puts 62 = .ok (.getfield 100, 3) := by decide +kernel
theorem dX7_puts_65 : decode cX7_puts 65 = .ok (.if_icmp .eq 10, 3) := by decide +kernel
theorem dX7_puts_68 : decode cX7_puts 68 = .ok (.aload_n 0, 1) := by decide +kernel
theorem dX7_puts_69 : decode cX7_puts 69 = .ok (.bipush 8, 2) := by decide +kernel
theorem dX7_puts_71 : decode cX7_puts 71 = .ok (.invokevirtual 97, 3) := by decide +kernel
theorem dX7_puts_74 : decode cX7_puts 74 = .ok (.ireturn, 1) := by decide +kernel
theorem dX7_puts_75 : decode cX7_puts 75 = .ok (.aload_n 0, 1) := by decide +kernel
theorem dX7_puts_76 : decode cX7_puts 76 = .ok (.getfield 51, 3) := by decide +kernel
theorem dX7_puts_79 : decode cX7_puts 79 = .ok (.iload_n 2, 1) := by decide +kernel
theorem dX7_puts_80 : decode cX7_puts 80 = .ok (.aload_n 0, 1) := by decide +kernel
theorem dX7_puts_81 : decode cX7_puts 81 = .ok (.getfield 35, 3) := by decide +kernel
theorem dX7_puts_84 : decode cX7_puts 84 = .ok (.iload_n 1, 1) := by decide +kernel
theorem dX7_puts_85 : decode cX7_puts 85 = .ok (.iaload, 1) := by decide +kernel
theorem dX7_puts_86 : decode cX7_puts 86 = .ok (.ifCond .ge 7, 3) := by decide +kernel
theorem dX7_puts_89 : decode cX7_puts 89 = .ok (.iconst (-1), 1) := by decide +kernel
theorem dX7_puts_90 : decode cX7_puts 90 = .ok (.goto 4, 3) := by decide +kernel
theorem dX7_puts_93 : decode cX7_puts 93 = .ok (.iload_n 1, 1) := by decide +kernel
theorem dX7_puts_94 : decode cX7_puts 94 = .ok (.iastore, 1) := by decide +kernel
theorem dX7_puts_95 : decode cX7_puts 95 = .ok (.iconst 0, 1) := by decide +kernel
theorem dX7_puts_96 : decode cX7_puts 96 = .ok (.ireturn, 1) := by decide +kernel
set_option maxRecDepth 20000 in
theorem ggX7_counts_X7_fails : GoodIn wsX7_counts wsX7_fails := goodIn_r _ [8, 9, 10, 11, 12, 7, 13, 19, 20, 21, 22, 23, 24, 25, 26, 27, 28, 29, 30, 31, 32, 33, 34, 35, 36, 37, 38, 39, 40, 41, 42, 43, 44, 45, 46] (by decide +kernel) (by decide +kernel)
set_option maxRecDepth 20000 in
theorem gX7_counts_X7_fails : GoodIn wsX7_counts (wsV RX7 97 RX7 yX7_fails wsX7_fails) := goodIn_app (goodIn_of _ (by decide +kernel)) ggX7_counts_X7_fails
set_option maxRecDepth 20000 in
theorem ggX7_counts_X7_more : GoodIn wsX7_counts wsX7_more := goodIn_r _ [17, 18, 4, 5, 6, 7, 8, 9, 10, 11, 12, 13, 19, 20, 21, 22, 23, 24, 25, 26, 27, 28, 29, 30, 31, 32, 33, 34, 35, 36, 37, 38, 39, 40, 41, 42, 43, 44, 45, 46] (by decide +kernel) (by decide +kernel)
set_option maxRecDepth 20000 in
theorem gX7_counts_X7_more : GoodIn wsX7_counts (wsV RX7 103 RX7 yX7_more wsX7_more) := goodIn_app (goodIn_of _ (by decide +kernel)) ggX7_counts_X7_more
theorem dX7_counts_0 : decode cX7_counts 0 = .ok (.iload_n 2, 1) := by decide +kernel
theorem dX7_counts_1 : decode cX7_counts 1 = .ok (.ifCond .ne 10, 3) := by decide +kernel
theorem dX7_counts_4 : decode cX7_counts 4 = .ok (.aload_n 0, 1) := by decide +kernel
theorem dX7_counts_5 : decode cX7_counts 5 = .ok (.getfield 44, 3) := by decide +kernel
theorem dX7_counts_8 : decode cX7_counts 8 = .ok (.goto 19, 3) := by decide +kernel
theorem dX7_counts_11 : decode cX7_counts 11 = .ok (.iload_n 2, 1) := by decide +kernel
theorem dX7_counts_12 : decode cX7_counts 12 = .ok (.iconst 1, 1) := by decide +kernel
theorem dX7_counts_13 : decode cX7_counts 13 = .ok (.if_icmp .ne 10, 3) := by decide +kernel
theorem dX7_counts_16 : decode cX7_counts 16 = .ok (.aload_n 0, 1) := by decide +kernel
theorem dX7_counts_17 : decode cX7_counts 17 = .ok (.getfield 48, 3) := by decide +kernel
theorem dX7_counts_20 : decode cX7_counts 20 = .ok (.goto 7, 3) := by decide +kernel
theorem dX7_counts_23 : decode cX7_counts 23 = .ok (.aload_n 0, 1) := by decide +kernel
theorem dX7_counts_24 : decode cX7_counts 24 = .ok (.getfield 54, 3) := by decide +kernel
theorem dX7_counts_27 : decode cX7_counts 27 = .ok (.istore_n 3, 1) := by decide +kernel
theorem dX7_counts_28 : decode cX7_counts 28 = .ok (.iload_n 3, 1) := by decide +kernel
theorem dX7_counts_29 : decode cX7_counts 29 = .ok (.ifCond .ge 11, 3) := by decide +kernel
theorem dX7_counts_32 : decode cX7_counts 32 = .ok (.aload_n 0, 1) := by decide +kernel
theorem dX7_counts_33 : decode cX7_counts 33 = .ok (.iconst 5, 1) := by decide +kernel
theorem dX7_counts_34 : decode cX7_counts 34 = .ok (.invokevirtual 97, 3) := by decide +kernel
theorem dX7_counts_37 : decode cX7_counts 37 = .ok (.goto 9, 3) := by decide +kernel
theorem dX7_counts_40 : decode cX7_counts 40 = .ok (.aload_n 0, 1) := by decide +kernel
theorem dX7_counts_41 : decode cX7_counts 41 = .ok (.iload_n 1, 1) := by decide +kernel
theorem dX7_counts_42 : decode cX7_counts 42 = .ok (.iload_n 3, 1) := by decide +kernel
theorem dX7_counts_43 : decode cX7_counts 43 = .ok (.invokevirtual 103, 3) := by decide +kernel
theorem dX7_counts_46 : decode cX7_counts 46 = .ok (.ireturn, 1) := by decide +kernel
set_option maxRecDepth 20000 in
theorem ggX7_raises_X7_fails : GoodIn wsX7_raises wsX7_fails := goodIn_r _ [8, 2, 3, 9, 10, 7, 11, 12, 13, 14, 15, 16, 17, 18, 19, 20, 21, 22, 23, 24, 25, 26, 27, 28, 29, 30, 31, 32, 33, 34, 35, 36, 37, 38, 39] (by decide +kernel) (by decide +kernel)
set_option maxRecDepth 20000 in
theorem gX7_raises_X7_fails : GoodIn wsX7_raises (wsV RX7 97 RX7 yX7_fails wsX7_fails) := goodIn_app (goodIn_of _ (by decide +kernel)) ggX7_raises_X7_fails
theorem dX7_raises_0 : decode cX7_raises 0 = .ok (.aload_n 0, 1) := by decide +kernel
theorem dX7_raises_1 : decode cX7_raises 1 = .ok (.getfield 57, 3) := by decide +kernel
theorem dX7_raises_4 : decode cX7_raises 4 = .ok (.iload_n 1, 1) := by decide +kernel
theorem dX7_raises_5 : decode cX7_raises 5 = .ok (.iaload, 1) := by decide +kernel
theorem dX7_raises_6 : decode cX7_raises 6 = .ok (.ifCond .ne 9, 3) := by decide +kernel
theorem dX7_raises_9 : decode cX7_raises 9 = .ok (.aload_n 0, 1) := by decide +kernel
theorem dX7_raises_10 : decode cX7_raises 10 = .ok (.iconst 5, 1) := by decide +kernel
theorem dX7_raises_11 : decode cX7_raises 11 = .ok (.invokevirtual 97, 3) := by decide +kernel
theorem dX7_raises_14 : decode cX7_raises 14 = .ok (.ireturn, 1) := by decide +kernel
theorem dX7_raises_15 : decode cX7_raises 15 = .ok (.aload_n 0, 1) := by decide +kernel
theorem dX7_raises_16 : decode cX7_raises 16 = .ok (.aload_n 0, 1) := by decide +kernel
theorem dX7_raises_17 : decode cX7_raises 17 = .ok (.getfield 57, 3) := by decide +kernel
theorem dX7_raises_20 : decode cX7_raises 20 = .ok (.iload_n 1, 1) := by decide +kernel
theorem dX7_raises_21 : decode cX7_raises 21 = .ok (.iaload, 1) := by decide +kernel
theorem dX7_raises_22 : decode cX7_raises 22 = .ok (.putfield 90, 3) := by decide +kernel
theorem dX7_raises_25 : decode cX7_raises 25 = .ok (.aload_n 0, 1) := by decide +kernel
theorem dX7_raises_26 : decode cX7_raises 26 = .ok (.iconst 0, 1) := by decide +kernel
theorem dX7_raises_27 : decode cX7_raises 27 = .ok (.putfield 93, 3) := by decide +kernel
theorem dX7_raises_30 : decode cX7_raises 30 = .ok (.iconst 5, 1) := by decide +kernel
theorem dX7_raises_31 : decode cX7_raises 31 = .ok (.ireturn, 1) := by decide +kernel
set_option maxRecDepth 20000 in
theorem ggX7_act_X7_more : GoodIn wsX7_act wsX7_more := goodIn_r _ [9, 1, 10, 11, 12, 8, 13, 14, 15, 16, 17, 18, 61, 62, 63, 64, 65, 66, 67, 68, 69, 70, 71, 72, 73, 74, 75, 76, 77, 78, 79, 80, 81, 82, 83, 84, 85, 86, 87, 88] (by decide +kernel) (by decide +kernel)
set_option maxRecDepth 20000 in
theorem gX7_act_X7_more : GoodIn wsX7_act (wsV RX7 103 RX7 yX7_more wsX7_more) := goodIn_app (goodIn_of _ (by decide +kernel)) ggX7_act_X7_more
set_option maxRecDepth 20000 in
theorem ggX7_act_X7_fails : GoodIn wsX7_act wsX7_fails := goodIn_r _ [13, 14, 15, 16, 17, 8, 18, 61, 62, 63, 64, 65, 66, 67, 68, 69, 70, 71, 72, 73, 74, 75, 76, 77, 78, 79, 80, 81, 82, 83, 84, 85, 86, 87, 88] (by decide +kernel) (by decide +kernel)
set_option maxRecDepth 20000 in
theorem gX7_act_X7_fails : GoodIn wsX7_act (wsV RX7 97 RX7 yX7_fails wsX7_fails) := goodIn_app (goodIn_of _ (by decide +kernel)) ggX7_act_X7_fails
set_option maxRecDepth 20000 in
theorem ggX7_act_X7_pours : GoodIn wsX7_act wsX7_pours := goodIn_r _ [22, 23, 1, 10, 11, 12, 8, 13, 14, 15, 16, 17, 18, 61, 62, 63, 64, 65, 66, 67, 68, 69, 70, 71, 72, 73, 74, 75, 76, 77, 78, 79, 80, 81, 82, 83, 84, 85, 86, 87, 88] (by decide +kernel) (by decide +kernel)
set_option maxRecDepth 20000 in
theorem gX7_act_X7_pours : GoodIn wsX7_act (wsV RX7 107 RX7 yX7_pours wsX7_pours) := goodIn_app (goodIn_of _ (by decide +kernel)) ggX7_act_X7_pours
set_option maxRecDepth 20000 in
theorem ggX7_act_X7_uses : GoodIn wsX7_act wsX7_uses := goodIn_r _ [27, 28, 29, 10, 11, 12, 8, 13, 14, 15, 16, 17, 18, 61, 62, 63, 64, 65, 66, 67, 68, 69, 70, 71, 72, 73, 74, 75, 76, 77, 78, 79, 80, 81, 82, 83, 84, 85, 86, 87, 88] (by decide +kernel) (by decide +kernel)
set_option maxRecDepth 20000 in
theorem gX7_act_X7_uses : GoodIn wsX7_act (wsV RX7 116 RX7 yX7_uses wsX7_uses) := goodIn_app (goodIn_of _ (by decide +kernel)) ggX7_act_X7_uses
set_option maxRecDepth 20000 in
theorem ggX7_act_X7_grips : GoodIn wsX7_act wsX7_grips := goodIn_r _ [33, 28, 34, 1, 10, 11, 12, 8, 13, 14, 15, 16, 17, 18, 61, 62, 63, 64, 65, 66, 67, 68, 69, 70, 71, 72, 73, 74, 75, 76, 77, 78, 79, 80, 81, 82, 83, 84, 85, 86, 87, 88] (by decide +kernel) (by decide +kernel)
set_option maxRecDepth 20000 in
theorem gX7_act_X7_grips : GoodIn wsX7_act (wsV RX7 118 RX7 yX7_grips wsX7_grips) := goodIn_app (goodIn_of _ (by decide +kernel)) ggX7_act_X7_grips
set_option maxRecDepth 20000 in
theorem ggX7_act_X7_boxes : GoodIn wsX7_act wsX7_boxes := goodIn_r _ [38, 39, 40, 41, 10, 11, 12, 8, 13, 14, 15, 16, 17, 18, 61, 62, 63, 64, 65, 66, 67, 68, 69, 70, 71, 72, 73, 74, 75, 76, 77, 78, 79, 80, 81, 82, 83, 84, 85, 86, 87, 88] (by decide +kernel) (by decide +kernel)
set_option maxRecDepth 20000 in
theorem gX7_act_X7_boxes : GoodIn wsX7_act (wsV RX7 120 RX7 yX7_boxes wsX7_boxes) := goodIn_app (goodIn_of _ (by decide +kernel)) ggX7_act_X7_boxes
set_option maxRecDepth 20000 in
theorem ggX7_act_X7_grids : GoodIn wsX7_act wsX7_grids := goodIn_r _ [45, 46, 47, 10, 11, 12, 8, 13, 14, 15, 16, 17, 18, 61, 62, 63, 64, 65, 66, 67, 68, 69, 70, 71, 72, 73, 74, 75, 76, 77, 78, 79, 80, 81, 82, 83, 84, 85, 86, 87, 88] (by decide +kernel) (by decide +kernel)
set_option maxRecDepth 20000 in
theorem gX7_act_X7_grids : GoodIn wsX7_act (wsV RX7 123 RX7 yX7_grids wsX7_grids) := goodIn_app (goodIn_of _ (by decide +kernel)) ggX7_act_X7_grids
set_option maxRecDepth 20000 in
theorem ggX7_act_X7_puts : GoodIn wsX7_act wsX7_puts := goodIn_r _ [51, 39, 28, 40, 41, 10, 11, 12, 8, 13, 14, 15, 16, 17, 18, 61, 62, 63, 64, 65, 66, 67, 68, 69, 70, 71, 72, 73, 74, 75, 76, 77, 78, 79, 80, 81, 82, 83, 84, 85, 86, 87, 88] (by decide +kernel) (by decide +kernel)
set_option maxRecDepth 20000 in
theorem gX7_act_X7_puts : GoodIn wsX7_act (wsV RX7 126 RX7 yX7_puts wsX7_puts) := goodIn_app (goodIn_of _ (by decide +kernel)) ggX7_act_X7_puts
set_option maxRecDepth 20000 in
theorem ggX7_act_X7_counts : GoodIn wsX7_act wsX7_counts := goodIn_r _ [55, 4, 39, 46, 10, 11, 12, 8, 13, 14, 15, 16, 17, 18, 5, 6, 7, 9, 1, 61, 62, 63, 64, 65, 66, 67, 68, 69, 70, 71, 72, 73, 74, 75, 76, 77, 78, 79, 80, 81, 82, 83, 84, 85, 86, 87, 88] (by decide +kernel) (by decide +kernel)
set_option maxRecDepth 20000 in
theorem gX7_act_X7_counts : GoodIn wsX7_act (wsV RX7 129 RX7 yX7_counts wsX7_counts) := goodIn_app (goodIn_of _ (by decide +kernel)) ggX7_act_X7_counts
set_option maxRecDepth 20000 in
theorem ggX7_act_X7_raises : GoodIn wsX7_act wsX7_raises := goodIn_r _ [59, 60, 14, 15, 10, 11, 12, 8, 13, 16, 17, 18, 61, 62, 63, 64, 65, 66, 67, 68, 69, 70, 71, 72, 73, 74, 75, 76, 77, 78, 79, 80, 81, 82, 83, 84, 85, 86, 87, 88] (by decide +kernel) (by decide +kernel)
set_option maxRecDepth 20000 in
theorem gX7_act_X7_raises : GoodIn wsX7_act (wsV RX7 132 RX7 yX7_raises wsX7_raises) := goodIn_app (goodIn_of _ (by decide +kernel)) ggX7_act_X7_raises

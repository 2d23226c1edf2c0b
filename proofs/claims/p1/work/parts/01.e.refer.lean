theorem dX6_init_0 : decode cX6_init 0 = .ok (.aload_n 0, 1) := by decide +kernel
theorem dX6_init_1 : decode cX6_init 1 = .ok (.invokespecial 1, 3) := by decide +kernel
theorem dX6_init_4 : decode cX6_init 4 = .ok (.aload_n 0, 1) := by decide +kernel
theorem dX6_init_5 : decode cX6_init 5 = .ok (.iconst 4, 1) := by decide +kernel
theorem dX6_init_6 : decode cX6_init 6 = .ok (.newarray .boolean, 2) := by decide +kernel
theorem dX6_init_8 : decode cX6_init 8 = .ok (.dup, 1) := by decide +kernel
theorem dX6_init_9 : decode cX6_init 9 = .ok (.iconst 0, 1) := by decide +kernel
theorem dX6_init_10 : decode cX6_init 10 = .ok (.iconst 1, 1) := by decide +kernel
theorem dX6_init_11 : decode cX6_init 11 = .ok (.bastore, 1) := by decide +kernel
theorem dX6_init_12 : decode cX6_init 12 = .ok (.dup, 1) := by decide +kernel
theorem dX6_init_13 : decode cX6_init 13 = .ok (.iconst 1, 1) := by decide +kernel
theorem dX6_init_14 : decode cX6_init 14 = .ok (.iconst 0, 1) := by decide +kernel
theorem dX6_init_15 : decode cX6_init 15 = .ok (.bastore, 1) := by decide +kernel
theorem dX6_init_16 : decode cX6_init 16 = .ok (.dup, 1) := by decide +kernel
theorem dX6_init_17 : decode cX6_init 17 = .ok (.iconst 2, 1) := by decide +kernel
theorem dX6_init_18 : decode cX6_init 18 = .ok (.iconst 0, 1) := by decide +kernel
theorem dX6_init_19 : decode cX6_init 19 = .ok (.bastore, 1) := by decide +kernel
theorem dX6_init_20 : decode cX6_init 20 = .ok (.dup, 1) := by decide +kernel
theorem dX6_init_21 : decode cX6_init 21 = .ok (.iconst 3, 1) := by decide +kernel
theorem dX6_init_22 : decode cX6_init 22 = .ok (.iconst 0, 1) := by decide +kernel
theorem dX6_init_23 : decode cX6_init 23 = .ok (.bastore, 1) := by decide +kernel
theorem dX6_init_24 : decode cX6_init 24 = .ok (.putfield 7, 3) := by decide +kernel
theorem dX6_init_27 : decode cX6_init 27 = .ok (.aload_n 0, 1) := by decide +kernel
theorem dX6_init_28 : decode cX6_init 28 = .ok (.iconst 4, 1) := by decide +kernel
theorem dX6_init_29 : decode cX6_init 29 = .ok (.newarray .int, 2) := by decide +kernel
theorem dX6_init_31 : decode cX6_init 31 = .ok (.putfield 13, 3) := by decide +kernel
theorem dX6_init_34 : decode cX6_init 34 = .ok (.aload_n 0, 1) := by decide +kernel
theorem dX6_init_35 : decode cX6_init 35 = .ok (.iconst 4, 1) := by decide +kernel
theorem dX6_init_36 : decode cX6_init 36 = .ok (.newarray .int, 2) := by decide +kernel
theorem dX6_init_38 : decode cX6_init 38 = .ok (.dup, 1) := by decide +kernel
theorem dX6_init_39 : decode cX6_init 39 = .ok (.iconst 0, 1) := by decide +kernel
theorem dX6_init_40 : decode cX6_init 40 = .ok (.iconst (-1), 1) := by decide +kernel
theorem dX6_init_41 : decode cX6_init 41 = .ok (.iastore, 1) := by decide +kernel
theorem dX6_init_42 : decode cX6_init 42 = .ok (.dup, 1) := by decide +kernel
theorem dX6_init_43 : decode cX6_init 43 = .ok (.iconst 1, 1) := by decide +kernel
theorem dX6_init_44 : decode cX6_init 44 = .ok (.iconst (-1), 1) := by decide +kernel
theorem dX6_init_45 : decode cX6_init 45 = .ok (.iastore, 1) := by decide +kernel
theorem dX6_init_46 : decode cX6_init 46 = .ok (.dup, 1) := by decide +kernel
theorem dX6_init_47 : decode cX6_init 47 = .ok (.iconst 2, 1) := by decide +kernel
theorem dX6_init_48 : decode cX6_init 48 = .ok (.iconst (-1), 1) := by decide +kernel
theorem dX6_init_49 : decode cX6_init 49 = .ok (.iastore, 1) := by decide +kernel
theorem dX6_init_50 : decode cX6_init 50 = .ok (.dup, 1) := by decide +kernel
theorem dX6_init_51 : decode cX6_init 51 = .ok (.iconst 3, 1) := by decide +kernel
theorem dX6_init_52 : decode cX6_init 52 = .ok (.iconst (-1), 1) := by decide +kernel
theorem dX6_init_53 : decode cX6_init 53 = .ok (.iastore, 1) := by decide +kernel
theorem dX6_init_54 : decode cX6_init 54 = .ok (.putfield 17, 3) := by decide +kernel
theorem dX6_init_57 : decode cX6_init 57 = .ok (.aload_n 0, 1) := by decide +kernel
theorem dX6_init_58 : decode cX6_init 58 = .ok (.iconst (-1), 1) := by decide +kernel
theorem dX6_init_59 : decode cX6_init 59 = .ok (.putfield 20, 3) := by decide +kernel
theorem dX6_init_62 : decode cX6_init 62 = .ok (.aload_n 0, 1) := by decide +kernel
theorem dX6_init_63 : decode cX6_init 63 = .ok (.bipush 40, 2) := by decide +kernel
theorem dX6_init_65 : decode cX6_init 65 = .ok (.newarray .int, 2) := by decide +kernel
theorem dX6_init_67 : decode cX6_init 67 = .ok (.putfield 24, 3) := by decide +kernel
theorem dX6_init_70 : decode cX6_init 70 = .ok (.aload_n 0, 1) := by decide +kernel
theorem dX6_init_71 : decode cX6_init 71 = .ok (.bipush 40, 2) := by decide +kernel
theorem dX6_init_73 : decode cX6_init 73 = .ok (.newarray .int, 2) := by decide +kernel
theorem dX6_init_75 : decode cX6_init 75 = .ok (.putfield 27, 3) := by decide +kernel
theorem dX6_init_78 : decode cX6_init 78 = .ok (.aload_n 0, 1) := by decide +kernel
theorem dX6_init_79 : decode cX6_init 79 = .ok (.bipush 40, 2) := by decide +kernel
theorem dX6_init_81 : decode cX6_init 81 = .ok (.newarray .int, 2) := by decide +kernel
theorem dX6_init_83 : decode cX6_init 83 = .ok (.putfield 30, 3) := by decide +kernel
theorem dX6_init_86 : decode cX6_init 86 = .ok (.aload_n 0, 1) := by decide +kernel
theorem dX6_init_87 : decode cX6_init 87 = .ok (.bipush 40, 2) := by decide +kernel
theorem dX6_init_89 : decode cX6_init 89 = .ok (.newarray .int, 2) := by decide +kernel
theorem dX6_init_91 : decode cX6_init 91 = .ok (.putfield 33, 3) := by decide +kernel
theorem dX6_init_94 : decode cX6_init 94 = .ok (.aload_n 0, 1) := by decide +kernel
theorem dX6_init_95 : decode cX6_init 95 = .ok (.iconst 3, 1) := by decide +kernel
theorem dX6_init_96 : decode cX6_init 96 = .ok (.newarray .int, 2) := by decide +kernel
theorem dX6_init_98 : decode cX6_init 98 = .ok (.putfield 36, 3) := by decide +kernel
theorem dX6_init_101 : decode cX6_init 101 = .ok (.aload_n 0, 1) := by decide +kernel
theorem dX6_init_102 : decode cX6_init 102 = .ok (.iconst 3, 1) := by decide +kernel
theorem dX6_init_103 : decode cX6_init 103 = .ok (.newarray .int, 2) := by decide +kernel
theorem dX6_init_105 : decode cX6_init 105 = .ok (.putfield 39, 3) := by decide +kernel
theorem dX6_init_108 : decode cX6_init 108 = .ok (.aload_n 0, 1) := by decide +kernel
theorem dX6_init_109 : decode cX6_init 109 = .ok (.sipush 16384, 3) := by decide +kernel
theorem dX6_init_112 : decode cX6_init 112 = .ok (.newarray .int, 2) := by decide +kernel
theorem dX6_init_114 : decode cX6_init 114 = .ok (.putfield 42, 3) := by decide +kernel
theorem dX6_init_117 : decode cX6_init 117 = .ok (.aload_n 0, 1) := by decide +kernel
theorem dX6_init_118 : decode cX6_init 118 = .ok (.sipush 16384, 3) := by decide +kernel
theorem dX6_init_121 : decode cX6_init 121 = .ok (.newarray .int, 2) := by decide +kernel
theorem dX6_init_123 : decode cX6_init 123 = .ok (.putfield 45, 3) := by decide +kernel
theorem dX6_init_126 : decode cX6_init 126 = .ok (.aload_n 0, 1) := by decide +kernel
theorem dX6_init_127 : decode cX6_init 127 = .ok (.sipush 16384, 3) := by decide +kernel
theorem dX6_init_130 : decode cX6_init 130 = .ok (.newarray .int, 2) := by decide +kernel
theorem dX6_init_132 : decode cX6_init 132 = .ok (.putfield 48, 3) := by decide +kernel
theorem dX6_init_135 : decode cX6_init 135 = .ok (.aload_n 0, 1) := by decide +kernel
theorem dX6_init_136 : decode cX6_init 136 = .ok (.sipush 16384, 3) := by decide +kernel
theorem dX6_init_139 : decode cX6_init 139 = .ok (.newarray .int, 2) := by decide +kernel
theorem dX6_init_141 : decode cX6_init 141 = .ok (.putfield 51, 3) := by decide +kernel
theorem dX6_init_144 : decode cX6_init 144 = .ok (.aload_n 0, 1) := by decide +kernel
theorem dX6_init_145 : decode cX6_init 145 = .ok (.iconst 3, 1) := by decide +kernel
theorem dX6_init_146 : decode cX6_init 146 = .ok (.newarray .int, 2) := by decide +kernel
theorem dX6_init_148 : decode cX6_init 148 = .ok (.putfield 54, 3) := by decide +kernel
theorem dX6_init_151 : decode cX6_init 151 = .ok (.aload_n 0, 1) := by decide +kernel
theorem dX6_init_152 : decode cX6_init 152 = .ok (.iconst 3, 1) := by decide +kernel
theorem dX6_init_153 : decode cX6_init 153 = .ok (.newarray .int, 2) := by decide +kernel
theorem dX6_init_155 : decode cX6_init 155 = .ok (.putfield 57, 3) := by decide +kernel
theorem dX6_init_158 : decode cX6_init 158 = .ok (.return_, 1) := by decide +kernel
theorem dX6_thrown_0 : decode cX6_thrown 0 = .ok (.aload_n 0, 1) := by decide +kernel
theorem dX6_thrown_1 : decode cX6_thrown 1 = .ok (.getfield 60, 3) := by decide +kernel
theorem dX6_thrown_4 : decode cX6_thrown 4 = .ok (.ireturn, 1) := by decide +kernel
theorem dX6_in_0 : decode cX6_in 0 = .ok (.iload_n 0, 1) := by decide +kernel
theorem dX6_in_1 : decode cX6_in 1 = .ok (.iload_n 1, 1) := by decide +kernel
theorem dX6_in_2 : decode cX6_in 2 = .ok (.if_icmp .lt 12, 3) := by decide +kernel
theorem dX6_in_5 : decode cX6_in 5 = .ok (.iload_n 0, 1) := by decide +kernel
theorem dX6_in_6 : decode cX6_in 6 = .ok (.iload_n 2, 1) := by decide +kernel
theorem dX6_in_7 : decode cX6_in 7 = .ok (.if_icmp .gt 7, 3) := by decide +kernel
theorem dX6_in_10 : decode cX6_in 10 = .ok (.iconst 1, 1) := by decide +kernel
theorem dX6_in_11 : decode cX6_in 11 = .ok (.goto 4, 3) := by decide +kernel
theorem dX6_in_14 : decode cX6_in 14 = .ok (.iconst 0, 1) := by decide +kernel
theorem dX6_in_15 : decode cX6_in 15 = .ok (.ireturn, 1) := by decide +kernel
set_option maxRecDepth 20000 in
theorem ggX6_isDepot_X6_in : GoodIn wsX6_isDepot wsX6_in := goodIn_r _ [4] (by decide +kernel) (by decide +kernel)
set_option maxRecDepth 20000 in
theorem gX6_isDepot_X6_in : GoodIn wsX6_isDepot (va_wsS RX6 63 yX6_in wsX6_in) := goodIn_app (goodIn_of _ (by decide +kernel)) ggX6_isDepot_X6_in
theorem dX6_isDepot_0 : decode cX6_isDepot 0 = .ok (.iload_n 0, 1) := by decide +kernel
theorem dX6_isDepot_1 : decode cX6_isDepot 1 = .ok (.iconst 0, 1) := by decide +kernel
theorem dX6_isDepot_2 : decode cX6_isDepot 2 = .ok (.iconst 3, 1) := by decide +kernel
theorem dX6_isDepot_3 : decode cX6_isDepot 3 = .ok (.invokestatic 63, 3) := by decide +kernel
theorem dX6_isDepot_6 : decode cX6_isDepot 6 = .ok (.ireturn, 1) := by decide +kernel
set_option maxRecDepth 20000 in
theorem ggX6_isGood_X6_in : GoodIn wsX6_isGood wsX6_in := goodIn_r _ [4] (by decide +kernel) (by decide +kernel)
set_option maxRecDepth 20000 in
theorem gX6_isGood_X6_in : GoodIn wsX6_isGood (va_wsS RX6 63 yX6_in wsX6_in) := goodIn_app (goodIn_of _ (by decide +kernel)) ggX6_isGood_X6_in
theorem dX6_isGood_0 : decode cX6_isGood 0 = .ok (.iload_n 0, 1) := by decide +kernel
theorem dX6_isGood_1 : decode cX6_isGood 1 = .ok (.iconst 0, 1) := by decide +kernel
theorem dX6_isGood_2 : decode cX6_isGood 2 = .ok (.iconst 4, 1) := by decide +kernel
theorem dX6_isGood_3 : decode cX6_isGood 3 = .ok (.invokestatic 63, 3) := by decide +kernel
theorem dX6_isGood_6 : decode cX6_isGood 6 = .ok (.ireturn, 1) := by decide +kernel
set_option maxRecDepth 20000 in
theorem ggX6_isLot_X6_in : GoodIn wsX6_isLot wsX6_in := goodIn_r _ [5] (by decide +kernel) (by decide +kernel)
set_option maxRecDepth 20000 in
theorem gX6_isLot_X6_in : GoodIn wsX6_isLot (va_wsS RX6 63 yX6_in wsX6_in) := goodIn_app (goodIn_of _ (by decide +kernel)) ggX6_isLot_X6_in
theorem dX6_isLot_0 : decode cX6_isLot 0 = .ok (.iload_n 1, 1) := by decide +kernel
theorem dX6_isLot_1 : decode cX6_isLot 1 = .ok (.iconst 0, 1) := by decide +kernel
theorem dX6_isLot_2 : decode cX6_isLot 2 = .ok (.aload_n 0, 1) := by decide +kernel
theorem dX6_isLot_3 : decode cX6_isLot 3 = .ok (.getfield 67, 3) := by decide +kernel
theorem dX6_isLot_6 : decode cX6_isLot 6 = .ok (.iconst 1, 1) := by decide +kernel
theorem dX6_isLot_7 : decode cX6_isLot 7 = .ok (.isub, 1) := by decide +kernel
theorem dX6_isLot_8 : decode cX6_isLot 8 = .ok (.invokestatic 63, 3) := by decide +kernel
theorem dX6_isLot_11 : decode cX6_isLot 11 = .ok (.ireturn, 1) := by decide +kernel
set_option maxRecDepth 20000 in
theorem ggX6_areDays_X6_in : GoodIn wsX6_areDays wsX6_in := goodIn_r _ [4] (by decide +kernel) (by decide +kernel)
set_option maxRecDepth 20000 in
theorem gX6_areDays_X6_in : GoodIn wsX6_areDays (va_wsS RX6 63 yX6_in wsX6_in) := goodIn_app (goodIn_of _ (by decide +kernel)) ggX6_areDays_X6_in
theorem dX6_areDays_0 : decode cX6_areDays 0 = .ok (.iload_n 0, 1) := by decide +kernel
theorem dX6_areDays_1 : decode cX6_areDays 1 = .ok (.iconst 0, 1) := by decide +kernel
theorem dX6_areDays_2 : decode cX6_areDays 2 = .ok (.sipush 1000, 3) := by decide +kernel
theorem dX6_areDays_5 : decode cX6_areDays 5 = .ok (.invokestatic 63, 3) := by decide +kernel
theorem dX6_areDays_8 : decode cX6_areDays 8 = .ok (.ifCond .eq 23, 3) := by decide +kernel
theorem dX6_areDays_11 : decode cX6_areDays 11 = .ok (.iload_n 1, 1) := by decide +kernel
theorem dX6_areDays_12 : decode cX6_areDays 12 = .ok (.iconst (-1), 1) := by decide +kernel
theorem dX6_areDays_13 : decode cX6_areDays 13 = .ok (.if_icmp .eq 14, 3) := by decide +kernel
theorem dX6_areDays_16 : decode cX6_areDays 16 = .ok (.iload_n 1, 1) := by decide +kernel
theorem dX6_areDays_17 : decode cX6_areDays 17 = .ok (.iload_n 0, 1) := by decide +kernel
theorem dX6_areDays_18 : decode cX6_areDays 18 = .ok (.sipush 1000, 3) := by decide +kernel
theorem dX6_areDays_21 : decode cX6_areDays 21 = .ok (.invokestatic 63, 3) := by decide +kernel
theorem dX6_areDays_24 : decode cX6_areDays 24 = .ok (.ifCond .eq 7, 3) := by decide +kernel
theorem dX6_areDays_27 : decode cX6_areDays 27 = .ok (.iconst 1, 1) := by decide +kernel
theorem dX6_areDays_28 : decode cX6_areDays 28 = .ok (.goto 4, 3) := by decide +kernel
theorem dX6_areDays_31 : decode cX6_areDays 31 = .ok (.iconst 0, 1) := by decide +kernel
theorem dX6_areDays_32 : decode cX6_areDays 32 = .ok (.ireturn, 1) := by decide +kernel
set_option maxRecDepth 20000 in
theorem ggX6_isCut_X6_in : GoodIn wsX6_isCut wsX6_in := goodIn_r _ [7] (by decide +kernel) (by decide +kernel)
set_option maxRecDepth 20000 in
theorem gX6_isCut_X6_in : GoodIn wsX6_isCut (va_wsS RX6 63 yX6_in wsX6_in) := goodIn_app (goodIn_of _ (by decide +kernel)) ggX6_isCut_X6_in
theorem dX6_isCut_0 : decode cX6_isCut 0 = .ok (.aload_n 0, 1) := by decide +kernel
theorem dX6_isCut_1 : decode cX6_isCut 1 = .ok (.getfield 17, 3) := by decide +kernel
theorem dX6_isCut_4 : decode cX6_isCut 4 = .ok (.iload_n 1, 1) := by decide +kernel
theorem dX6_isCut_5 : decode cX6_isCut 5 = .ok (.iaload, 1) := by decide +kernel
theorem dX6_isCut_6 : decode cX6_isCut 6 = .ok (.iconst (-1), 1) := by decide +kernel
theorem dX6_isCut_7 : decode cX6_isCut 7 = .ok (.if_icmp .eq 29, 3) := by decide +kernel
theorem dX6_isCut_10 : decode cX6_isCut 10 = .ok (.aload_n 0, 1) := by decide +kernel
theorem dX6_isCut_11 : decode cX6_isCut 11 = .ok (.getfield 70, 3) := by decide +kernel
theorem dX6_isCut_14 : decode cX6_isCut 14 = .ok (.aload_n 0, 1) := by decide +kernel
theorem dX6_isCut_15 : decode cX6_isCut 15 = .ok (.getfield 13, 3) := by decide +kernel
theorem dX6_isCut_18 : decode cX6_isCut 18 = .ok (.iload_n 1, 1) := by decide +kernel
theorem dX6_isCut_19 : decode cX6_isCut 19 = .ok (.iaload, 1) := by decide +kernel
theorem dX6_isCut_20 : decode cX6_isCut 20 = .ok (.aload_n 0, 1) := by decide +kernel
theorem dX6_isCut_21 : decode cX6_isCut 21 = .ok (.getfield 17, 3) := by decide +kernel
theorem dX6_isCut_24 : decode cX6_isCut 24 = .ok (.iload_n 1, 1) := by decide +kernel
theorem dX6_isCut_25 : decode cX6_isCut 25 = .ok (.iaload, 1) := by decide +kernel
theorem dX6_isCut_26 : decode cX6_isCut 26 = .ok (.invokestatic 63, 3) := by decide +kernel
theorem dX6_isCut_29 : decode cX6_isCut 29 = .ok (.ifCond .eq 7, 3) := by decide +kernel
theorem dX6_isCut_32 : decode cX6_isCut 32 = .ok (.iconst 1, 1) := by decide +kernel
theorem dX6_isCut_33 : decode cX6_isCut 33 = .ok (.goto 4, 3) := by decide +kernel
theorem dX6_isCut_36 : decode cX6_isCut 36 = .ok (.iconst 0, 1) := by decide +kernel
theorem dX6_isCut_37 : decode cX6_isCut 37 = .ok (.ireturn, 1) := by decide +kernel
set_option maxRecDepth 20000 in
theorem ggX6_setCut_X6_isDepot : GoodIn wsX6_setCut wsX6_isDepot := goodIn_r _ [7, 8, 9, 6, 10] (by decide +kernel) (by decide +kernel)
set_option maxRecDepth 20000 in
theorem gX6_setCut_X6_isDepot : GoodIn wsX6_setCut (va_wsS RX6 73 yX6_isDepot wsX6_isDepot) := goodIn_app (goodIn_of _ (by decide +kernel)) ggX6_setCut_X6_isDepot
set_option maxRecDepth 20000 in
theorem ggX6_setCut_X6_areDays : GoodIn wsX6_setCut wsX6_areDays := goodIn_r _ [13, 8, 9, 6, 10] (by decide +kernel) (by decide +kernel)
set_option maxRecDepth 20000 in
theorem gX6_setCut_X6_areDays : GoodIn wsX6_setCut (va_wsS RX6 77 yX6_areDays wsX6_areDays) := goodIn_app (goodIn_of _ (by decide +kernel)) ggX6_setCut_X6_areDays
set_option maxRecDepth 20000 in
theorem ggX6_setCut_X6_isCut : GoodIn wsX6_setCut wsX6_isCut := goodIn_r _ [17, 3, 18, 2, 8, 9, 6, 10, 19, 20, 21, 22, 23, 24, 25, 26, 27, 28, 29, 30, 31, 32, 33, 34, 35, 36, 37, 38, 39, 40] (by decide +kernel) (by decide +kernel)
set_option maxRecDepth 20000 in
theorem gX6_setCut_X6_isCut : GoodIn wsX6_setCut (wsV RX6 81 RX6 yX6_isCut wsX6_isCut) := goodIn_app (goodIn_of _ (by decide +kernel)) ggX6_setCut_X6_isCut
theorem dX6_setCut_0 : decode cX6_setCut 0 = .ok (.aload_n 0, 1) := by decide +kernel
theorem dX6_setCut_1 : decode cX6_setCut 1 = .ok (.iload_n 1, 1) := by decide +kernel
theorem dX6_setCut_2 : decode cX6_setCut 2 = .ok (.invokestatic 73, 3) := by decide +kernel
theorem dX6_setCut_5 : decode cX6_setCut 5 = .ok (.ifCond .ne 7, 3) := by decide +kernel
theorem dX6_setCut_8 : decode cX6_setCut 8 = .ok (.iconst 1, 1) := by decide +kernel
theorem dX6_setCut_9 : decode cX6_setCut 9 = .ok (.goto 16, 3) := by decide +kernel
theorem dX6_setCut_12 : decode cX6_setCut 12 = .ok (.iload_n 2, 1) := by decide +kernel
theorem dX6_setCut_13 : decode cX6_setCut 13 = .ok (.iload_n 3, 1) := by decide +kernel
theorem dX6_setCut_14 : decode cX6_setCut 14 = .ok (.invokestatic 77, 3) := by decide +kernel
theorem dX6_setCut_17 : decode cX6_setCut 17 = .ok (.ifCond .eq 7, 3) := by decide +kernel
theorem dX6_setCut_20 : decode cX6_setCut 20 = .ok (.iconst 0, 1) := by decide +kernel
theorem dX6_setCut_21 : decode cX6_setCut 21 = .ok (.goto 4, 3) := by decide +kernel
theorem dX6_setCut_24 : decode cX6_setCut 24 = .ok (.iconst 2, 1) := by decide +kernel
theorem dX6_setCut_25 : decode cX6_setCut 25 = .ok (.putfield 60, 3) := by decide +kernel
theorem dX6_setCut_28 : decode cX6_setCut 28 = .ok (.aload_n 0, 1) := by decide +kernel
theorem dX6_setCut_29 : decode cX6_setCut 29 = .ok (.getfield 60, 3) := by decide +kernel
theorem dX6_setCut_32 : decode cX6_setCut 32 = .ok (.ifCond .le 5, 3) := by decide +kernel
theorem dX6_setCut_35 : decode cX6_setCut 35 = .ok (.iconst 0, 1) := by decide +kernel
theorem dX6_setCut_36 : decode cX6_setCut 36 = .ok (.ireturn, 1) := by decide +kernel
theorem dX6_setCut_37 : decode cX6_setCut 37 = .ok (.aload_n 0, 1) := by decide +kernel
theorem dX6_setCut_38 : decode cX6_setCut 38 = .ok (.getfield 13, 3) := by decide +kernel
theorem dX6_setCut_41 : decode cX6_setCut 41 = .ok (.iload_n 1, 1) := by decide +kernel
theorem dX6_setCut_42 : decode cX6_setCut 42 = .ok (.iload_n 2, 1) := by decide +kernel
theorem dX6_setCut_43 : decode cX6_setCut 43 = .ok (.iastore, 1) := by decide +kernel
theorem dX6_setCut_44 : decode cX6_setCut 44 = .ok (.aload_n 0, 1) := by decide +kernel
theorem dX6_setCut_45 : decode cX6_setCut 45 = .ok (.getfield 17, 3) := by decide +kernel
theorem dX6_setCut_48 : decode cX6_setCut 48 = .ok (.iload_n 1, 1) := by decide +kernel
theorem dX6_setCut_49 : decode cX6_setCut 49 = .ok (.iload_n 3, 1) := by decide +kernel
theorem dX6_setCut_50 : decode cX6_setCut 50 = .ok (.iastore, 1) := by decide +kernel
theorem dX6_setCut_51 : decode cX6_setCut 51 = .ok (.aload_n 0, 1) := by decide +kernel
theorem dX6_setCut_52 : decode cX6_setCut 52 = .ok (.iload_n 1, 1) := by decide +kernel
theorem dX6_setCut_53 : decode cX6_setCut 53 = .ok (.invokevirtual 81, 3) := by decide +kernel
theorem dX6_setCut_56 : decode cX6_setCut 56 = .ok (.ireturn, 1) := by decide +kernel
set_option maxRecDepth 20000 in
theorem ggX6_setWarm_X6_isDepot : GoodIn wsX6_setWarm wsX6_isDepot := goodIn_r _ [6, 7, 8, 5, 9] (by decide +kernel) (by decide +kernel)
set_option maxRecDepth 20000 in
theorem gX6_setWarm_X6_isDepot : GoodIn wsX6_setWarm (va_wsS RX6 73 yX6_isDepot wsX6_isDepot) := goodIn_app (goodIn_of _ (by decide +kernel)) ggX6_setWarm_X6_isDepot
theorem dX6_setWarm_0 : decode cX6_setWarm 0 = .ok (.aload_n 0, 1) := by decide +kernel
theorem dX6_setWarm_1 : decode cX6_setWarm 1 = .ok (.iload_n 1, 1) := by decide +kernel
theorem dX6_setWarm_2 : decode cX6_setWarm 2 = .ok (.invokestatic 73, 3) := by decide +kernel
theorem dX6_setWarm_5 : decode cX6_setWarm 5 = .ok (.ifCond .eq 7, 3) := by decide +kernel
theorem dX6_setWarm_8 : decode cX6_setWarm 8 = .ok (.iconst 0, 1) := by decide +kernel
theorem dX6_setWarm_9 : decode cX6_setWarm 9 = .ok (.goto 4, 3) := by decide +kernel
theorem dX6_setWarm_12 : decode cX6_setWarm 12 = .ok (.iconst 1, 1) := by decide +kernel
theorem dX6_setWarm_13 : decode cX6_setWarm 13 = .ok (.putfield 60, 3) := by decide +kernel
theorem dX6_setWarm_16 : decode cX6_setWarm 16 = .ok (.aload_n 0, 1) := by decide +kernel
theorem dX6_setWarm_17 : decode cX6_setWarm 17 = .ok (.getfield 60, 3) := by decide +kernel
theorem dX6_setWarm_20 : decode cX6_setWarm 20 = .ok (.ifCond .le 5, 3) := by decide +kernel
theorem dX6_setWarm_23 : decode cX6_setWarm 23 = .ok (.iconst 0, 1) := by decide +kernel
theorem dX6_setWarm_24 : decode cX6_setWarm 24 = .ok (.ireturn, 1) := by decide +kernel
theorem dX6_setWarm_25 : decode cX6_setWarm 25 = .ok (.aload_n 0, 1) := by decide +kernel
theorem dX6_setWarm_26 : decode cX6_setWarm 26 = .ok (.getfield 7, 3) := by decide +kernel
theorem dX6_setWarm_29 : decode cX6_setWarm 29 = .ok (.iload_n 1, 1) := by decide +kernel
theorem dX6_setWarm_30 : decode cX6_setWarm 30 = .ok (.baload, 1) := by decide +kernel
theorem dX6_setWarm_31 : decode cX6_setWarm 31 = .ok (.istore_n 3, 1) := by decide +kernel
theorem dX6_setWarm_32 : decode cX6_setWarm 32 = .ok (.aload_n 0, 1) := by decide +kernel
theorem dX6_setWarm_33 : decode cX6_setWarm 33 = .ok (.getfield 7, 3) := by decide +kernel
theorem dX6_setWarm_36 : decode cX6_setWarm 36 = .ok (.iload_n 1, 1) := by decide +kernel
theorem dX6_setWarm_37 : decode cX6_setWarm 37 = .ok (.iload_n 2, 1) := by decide +kernel
theorem dX6_setWarm_38 : decode cX6_setWarm 38 = .ok (.bastore, 1) := by decide +kernel
theorem dX6_setWarm_39 : decode cX6_setWarm 39 = .ok (.iload_n 3, 1) := by decide +kernel
theorem dX6_setWarm_40 : decode cX6_setWarm 40 = .ok (.ireturn, 1) := by decide +kernel
set_option maxRecDepth 20000 in
theorem ggX6_isFrost_X6_in : GoodIn wsX6_isFrost wsX6_in := goodIn_r _ [7] (by decide +kernel) (by decide +kernel)
set_option maxRecDepth 20000 in
theorem gX6_isFrost_X6_in : GoodIn wsX6_isFrost (va_wsS RX6 63 yX6_in wsX6_in) := goodIn_app (goodIn_of _ (by decide +kernel)) ggX6_isFrost_X6_in
theorem dX6_isFrost_0 : decode cX6_isFrost 0 = .ok (.aload_n 0, 1) := by decide +kernel
theorem dX6_isFrost_1 : decode cX6_isFrost 1 = .ok (.getfield 20, 3) := by decide +kernel
theorem dX6_isFrost_4 : decode cX6_isFrost 4 = .ok (.iconst (-1), 1) := by decide +kernel
theorem dX6_isFrost_5 : decode cX6_isFrost 5 = .ok (.if_icmp .eq 25, 3) := by decide +kernel
theorem dX6_isFrost_8 : decode cX6_isFrost 8 = .ok (.aload_n 0, 1) := by decide +kernel
theorem dX6_isFrost_9 : decode cX6_isFrost 9 = .ok (.getfield 70, 3) := by decide +kernel
theorem dX6_isFrost_12 : decode cX6_isFrost 12 = .ok (.aload_n 0, 1) := by decide +kernel
theorem dX6_isFrost_13 : decode cX6_isFrost 13 = .ok (.getfield 84, 3) := by decide +kernel
theorem dX6_isFrost_16 : decode cX6_isFrost 16 = .ok (.aload_n 0, 1) := by decide +kernel
theorem dX6_isFrost_17 : decode cX6_isFrost 17 = .ok (.getfield 20, 3) := by decide +kernel
theorem dX6_isFrost_20 : decode cX6_isFrost 20 = .ok (.invokestatic 63, 3) := by decide +kernel
theorem dX6_isFrost_23 : decode cX6_isFrost 23 = .ok (.ifCond .eq 7, 3) := by decide +kernel
theorem dX6_isFrost_26 : decode cX6_isFrost 26 = .ok (.iconst 1, 1) := by decide +kernel
theorem dX6_isFrost_27 : decode cX6_isFrost 27 = .ok (.goto 4, 3) := by decide +kernel
theorem dX6_isFrost_30 : decode cX6_isFrost 30 = .ok (.iconst 0, 1) := by decide +kernel
theorem dX6_isFrost_31 : decode cX6_isFrost 31 = .ok (.ireturn, 1) := by decide +kernel
set_option maxRecDepth 20000 in
theorem ggX6_setFrost_X6_areDays : GoodIn wsX6_setFrost wsX6_areDays := goodIn_r _ [7, 8, 9, 6, 10] (by decide +kernel) (by decide +kernel)
set_option maxRecDepth 20000 in
theorem gX6_setFrost_X6_areDays : GoodIn wsX6_setFrost (va_wsS RX6 77 yX6_areDays wsX6_areDays) := goodIn_app (goodIn_of _ (by decide +kernel)) ggX6_setFrost_X6_areDays
set_option maxRecDepth 20000 in
theorem ggX6_setFrost_X6_isFrost : GoodIn wsX6_setFrost wsX6_isFrost := goodIn_r _ [14, 3, 15, 2, 8, 9, 6, 10, 16, 17, 18, 19, 20, 21, 22, 23, 24, 25, 26, 27, 28, 29, 30, 31, 32, 33, 34, 35, 36, 37] (by decide +kernel) (by decide +kernel)
set_option maxRecDepth 20000 in
theorem gX6_setFrost_X6_isFrost : GoodIn wsX6_setFrost (wsV RX6 87 RX6 yX6_isFrost wsX6_isFrost) := goodIn_app (goodIn_of _ (by decide +kernel)) ggX6_setFrost_X6_isFrost
theorem dX6_setFrost_0 : decode cX6_setFrost 0 = .ok (.aload_n 0, 1) := by decide +kernel
theorem dX6_setFrost_1 : decode cX6_setFrost 1 = .ok (.iload_n 1, 1) := by decide +kernel
theorem dX6_setFrost_2 : decode cX6_setFrost 2 = .ok (.iload_n 2, 1) := by decide +kernel
theorem dX6_setFrost_3 : decode cX6_setFrost 3 = .ok (.invokestatic 77, 3) := by decide +kernel
theorem dX6_setFrost_6 : decode cX6_setFrost 6 = .ok (.ifCond .eq 7, 3) := by decide +kernel
theorem dX6_setFrost_9 : decode cX6_setFrost 9 = .ok (.iconst 0, 1) := by decide +kernel
theorem dX6_setFrost_10 : decode cX6_setFrost 10 = .ok (.goto 4, 3) := by decide +kernel
theorem dX6_setFrost_13 : decode cX6_setFrost 13 = .ok (.iconst 1, 1) := by decide +kernel
theorem dX6_setFrost_14 : decode cX6_setFrost 14 = .ok (.putfield 60, 3) := by decide +kernel
theorem dX6_setFrost_17 : decode cX6_setFrost 17 = .ok (.aload_n 0, 1) := by decide +kernel
theorem dX6_setFrost_18 : decode cX6_setFrost 18 = .ok (.getfield 60, 3) := by decide +kernel
theorem dX6_setFrost_21 : decode cX6_setFrost 21 = .ok (.ifCond .le 5, 3) := by decide +kernel
theorem dX6_setFrost_24 : decode cX6_setFrost 24 = .ok (.iconst 0, 1) := by decide +kernel
theorem dX6_setFrost_25 : decode cX6_setFrost 25 = .ok (.ireturn, 1) := by decide +kernel
theorem dX6_setFrost_26 : decode cX6_setFrost 26 = .ok (.aload_n 0, 1) := by decide +kernel
theorem dX6_setFrost_27 : decode cX6_setFrost 27 = .ok (.iload_n 1, 1) := by decide +kernel
theorem dX6_setFrost_28 : decode cX6_setFrost 28 = .ok (.putfield 84, 3) := by decide +kernel
theorem dX6_setFrost_31 : decode cX6_setFrost 31 = .ok (.aload_n 0, 1) := by decide +kernel
theorem dX6_setFrost_32 : decode cX6_setFrost 32 = .ok (.iload_n 2, 1) := by decide +kernel
theorem dX6_setFrost_33 : decode cX6_setFrost 33 = .ok (.putfield 20, 3) := by decide +kernel
theorem dX6_setFrost_36 : decode cX6_setFrost 36 = .ok (.aload_n 0, 1) := by decide +kernel
theorem dX6_setFrost_37 : decode cX6_setFrost 37 = .ok (.invokevirtual 87, 3) := by decide +kernel
theorem dX6_setFrost_40 : decode cX6_setFrost 40 = .ok (.ireturn, 1) := by decide +kernel
theorem dX6_changes_0 : decode cX6_changes 0 = .ok (.iload_n 2, 1) := by decide +kernel
theorem dX6_changes_1 : decode cX6_changes 1 = .ok (.ifCond .eq 66, 3) := by decide +kernel
theorem dX6_changes_4 : decode cX6_changes 4 = .ok (.aload_n 0, 1) := by decide +kernel
theorem dX6_changes_5 : decode cX6_changes 5 = .ok (.getfield 30, 3) := by decide +kernel
theorem dX6_changes_8 : decode cX6_changes 8 = .ok (.iload_n 1, 1) := by decide +kernel
theorem dX6_changes_9 : decode cX6_changes 9 = .ok (.dup2, 1) := by decide +kernel
theorem dX6_changes_10 : decode cX6_changes 10 = .ok (.iaload, 1) := by decide +kernel
theorem dX6_changes_11 : decode cX6_changes 11 = .ok (.iload_n 2, 1) := by decide +kernel
theorem dX6_changes_12 : decode cX6_changes 12 = .ok (.iadd, 1) := by decide +kernel
theorem dX6_changes_13 : decode cX6_changes 13 = .ok (.iastore, 1) := by decide +kernel
theorem dX6_changes_14 : decode cX6_changes 14 = .ok (.aload_n 0, 1) := by decide +kernel
theorem dX6_changes_15 : decode cX6_changes 15 = .ok (.getfield 42, 3) := by decide +kernel
theorem dX6_changes_18 : decode cX6_changes 18 = .ok (.aload_n 0, 1) := by decide +kernel
theorem dX6_changes_19 : decode cX6_changes 19 = .ok (.getfield 91, 3) := by decide +kernel
theorem dX6_changes_22 : decode cX6_changes 22 = .ok (.aload_n 0, 1) := by decide +kernel
theorem dX6_changes_23 : decode cX6_changes 23 = .ok (.getfield 94, 3) := by decide +kernel
theorem dX6_changes_26 : decode cX6_changes 26 = .ok (.iastore, 1) := by decide +kernel
theorem dX6_changes_27 : decode cX6_changes 27 = .ok (.aload_n 0, 1) := by decide +kernel
theorem dX6_changes_28 : decode cX6_changes 28 = .ok (.getfield 45, 3) := by decide +kernel
theorem dX6_changes_31 : decode cX6_changes 31 = .ok (.aload_n 0, 1) := by decide +kernel
theorem dX6_changes_32 : decode cX6_changes 32 = .ok (.getfield 91, 3) := by decide +kernel
theorem dX6_changes_35 : decode cX6_changes 35 = .ok (.iload_n 1, 1) := by decide +kernel
theorem dX6_changes_36 : decode cX6_changes 36 = .ok (.iastore, 1) := by decide +kernel
theorem dX6_changes_37 : decode cX6_changes 37 = .ok (.aload_n 0, 1) := by decide +kernel
theorem dX6_changes_38 : decode cX6_changes 38 = .ok (.getfield 48, 3) := by decide +kernel
theorem dX6_changes_41 : decode cX6_changes 41 = .ok (.aload_n 0, 1) := by decide +kernel
theorem dX6_changes_42 : decode cX6_changes 42 = .ok (.getfield 91, 3) := by decide +kernel
theorem dX6_changes_45 : decode cX6_changes 45 = .ok (.iload_n 2, 1) := by decide +kernel
theorem dX6_changes_46 : decode cX6_changes 46 = .ok (.iastore, 1) := by decide +kernel
theorem dX6_changes_47 : decode cX6_changes 47 = .ok (.aload_n 0, 1) := by decide +kernel
theorem dX6_changes_48 : decode cX6_changes 48 = .ok (.getfield 51, 3) := by decide +kernel
theorem dX6_changes_51 : decode cX6_changes 51 = .ok (.aload_n 0, 1) := by decide +kernel
theorem dX6_changes_52 : decode cX6_changes 52 = .ok (.getfield 91, 3) := by decide +kernel
theorem dX6_changes_55 : decode cX6_changes 55 = .ok (.iload_n 3, 1) := by decide +kernel
theorem dX6_changes_56 : decode cX6_changes 56 = .ok (.iastore, 1) := by decide +kernel
theorem dX6_changes_57 : decode cX6_changes 57 = .ok (.aload_n 0, 1) := by decide +kernel
theorem dX6_changes_58 : decode cX6_changes 58 = .ok (.dup, 1) := by decide +kernel
theorem dX6_changes_59 : decode cX6_changes 59 = .ok (.getfield 91, 3) := by decide +kernel
theorem dX6_changes_62 : decode cX6_changes 62 = .ok (.iconst 1, 1) := by decide +kernel
theorem dX6_changes_63 : decode cX6_changes 63 = .ok (.iadd, 1) := by decide +kernel
theorem dX6_changes_64 : decode cX6_changes 64 = .ok (.putfield 91, 3) := by decide +kernel
theorem dX6_changes_67 : decode cX6_changes 67 = .ok (.return_, 1) := by decide +kernel
theorem dX6_makes_0 : decode cX6_makes 0 = .ok (.aload_n 0, 1) := by decide +kernel
theorem dX6_makes_1 : decode cX6_makes 1 = .ok (.getfield 24, 3) := by decide +kernel
theorem dX6_makes_4 : decode cX6_makes 4 = .ok (.aload_n 0, 1) := by decide +kernel
theorem dX6_makes_5 : decode cX6_makes 5 = .ok (.getfield 67, 3) := by decide +kernel
theorem dX6_makes_8 : decode cX6_makes 8 = .ok (.iload_n 1, 1) := by decide +kernel
theorem dX6_makes_9 : decode cX6_makes 9 = .ok (.iastore, 1) := by decide +kernel
theorem dX6_makes_10 : decode cX6_makes 10 = .ok (.aload_n 0, 1) := by decide +kernel
theorem dX6_makes_11 : decode cX6_makes 11 = .ok (.getfield 27, 3) := by decide +kernel
theorem dX6_makes_14 : decode cX6_makes 14 = .ok (.aload_n 0, 1) := by decide +kernel
theorem dX6_makes_15 : decode cX6_makes 15 = .ok (.getfield 67, 3) := by decide +kernel
theorem dX6_makes_18 : decode cX6_makes 18 = .ok (.iload_n 2, 1) := by decide +kernel
theorem dX6_makes_19 : decode cX6_makes 19 = .ok (.iastore, 1) := by decide +kernel
theorem dX6_makes_20 : decode cX6_makes 20 = .ok (.aload_n 0, 1) := by decide +kernel
theorem dX6_makes_21 : decode cX6_makes 21 = .ok (.getfield 33, 3) := by decide +kernel
theorem dX6_makes_24 : decode cX6_makes 24 = .ok (.aload_n 0, 1) := by decide +kernel
theorem dX6_makes_25 : decode cX6_makes 25 = .ok (.getfield 67, 3) := by decide +kernel
theorem dX6_makes_28 : decode cX6_makes 28 = .ok (.iload_n 3, 1) := by decide +kernel
theorem dX6_makes_29 : decode cX6_makes 29 = .ok (.iastore, 1) := by decide +kernel
theorem dX6_makes_30 : decode cX6_makes 30 = .ok (.aload_n 0, 1) := by decide +kernel
theorem dX6_makes_31 : decode cX6_makes 31 = .ok (.getfield 30, 3) := by decide +kernel
theorem dX6_makes_34 : decode cX6_makes 34 = .ok (.aload_n 0, 1) := by decide +kernel
theorem dX6_makes_35 : decode cX6_makes 35 = .ok (.getfield 67, 3) := by decide +kernel
theorem dX6_makes_38 : decode cX6_makes 38 = .ok (.iconst 0, 1) := by decide +kernel
theorem dX6_makes_39 : decode cX6_makes 39 = .ok (.iastore, 1) := by decide +kernel
theorem dX6_makes_40 : decode cX6_makes 40 = .ok (.aload_n 0, 1) := by decide +kernel
theorem dX6_makes_41 : decode cX6_makes 41 = .ok (.dup, 1) := by decide +kernel
theorem dX6_makes_42 : decode cX6_makes 42 = .ok (.getfield 67, 3) := by decide +kernel
theorem dX6_makes_45 : decode cX6_makes 45 = .ok (.iconst 1, 1) := by decide +kernel
theorem dX6_makes_46 : decode cX6_makes 46 = .ok (.iadd, 1) := by decide +kernel
theorem dX6_makes_47 : decode cX6_makes 47 = .ok (.putfield 67, 3) := by decide +kernel
theorem dX6_makes_50 : decode cX6_makes 50 = .ok (.aload_n 0, 1) := by decide +kernel
theorem dX6_makes_51 : decode cX6_makes 51 = .ok (.getfield 67, 3) := by decide +kernel
theorem dX6_makes_54 : decode cX6_makes 54 = .ok (.iconst 1, 1) := by decide +kernel
theorem dX6_makes_55 : decode cX6_makes 55 = .ok (.isub, 1) := by decide +kernel
theorem dX6_makes_56 : decode cX6_makes 56 = .ok (.ireturn, 1) := by decide +kernel
set_option maxRecDepth 20000 in
theorem ggX6_fill_X6_isDepot : GoodIn wsX6_fill wsX6_isDepot := goodIn_r _ [6, 7, 8, 5, 9] (by decide +kernel) (by decide +kernel)
set_option maxRecDepth 20000 in
theorem gX6_fill_X6_isDepot : GoodIn wsX6_fill (va_wsS RX6 73 yX6_isDepot wsX6_isDepot) := goodIn_app (goodIn_of _ (by decide +kernel)) ggX6_fill_X6_isDepot
set_option maxRecDepth 20000 in
theorem ggX6_fill_X6_isGood : GoodIn wsX6_fill wsX6_isGood := goodIn_r _ [12, 7, 8, 5, 9] (by decide +kernel) (by decide +kernel)
set_option maxRecDepth 20000 in
theorem gX6_fill_X6_isGood : GoodIn wsX6_fill (va_wsS RX6 97 yX6_isGood wsX6_isGood) := goodIn_app (goodIn_of _ (by decide +kernel)) ggX6_fill_X6_isGood
set_option maxRecDepth 20000 in
theorem ggX6_fill_X6_in : GoodIn wsX6_fill wsX6_in := goodIn_r _ [9] (by decide +kernel) (by decide +kernel)
set_option maxRecDepth 20000 in
theorem gX6_fill_X6_in : GoodIn wsX6_fill (va_wsS RX6 63 yX6_in wsX6_in) := goodIn_app (goodIn_of _ (by decide +kernel)) ggX6_fill_X6_in
set_option maxRecDepth 20000 in
theorem ggX6_fill_X6_makes : GoodIn wsX6_fill wsX6_makes := goodIn_r _ [16, 17, 1, 18, 19, 20, 31, 32, 33, 34, 35, 36, 37, 38, 39, 40, 41, 42, 43, 44, 45, 46, 47, 48, 49, 50, 51, 52] (by decide +kernel) (by decide +kernel)
set_option maxRecDepth 20000 in
theorem gX6_fill_X6_makes : GoodIn wsX6_fill (wsV RX6 100 RX6 yX6_makes wsX6_makes) := goodIn_app (goodIn_of _ (by decide +kernel)) ggX6_fill_X6_makes
set_option maxRecDepth 20000 in
theorem ggX6_fill_X6_changes : GoodIn wsX6_fill wsX6_changes := goodIn_r _ [24, 20, 25, 26, 27, 28, 29, 30, 31, 32, 33, 34, 35, 36, 37, 38, 39, 40, 41, 42, 43, 44, 45, 46, 47, 48, 49, 50, 51, 52] (by decide +kernel) (by decide +kernel)
set_option maxRecDepth 20000 in
theorem gX6_fill_X6_changes : GoodIn wsX6_fill (wsV RX6 104 RX6 yX6_changes wsX6_changes) := goodIn_app (goodIn_of _ (by decide +kernel)) ggX6_fill_X6_changes
theorem dX6_fill_0 : decode cX6_fill 0 = .ok (.aload_n 0, 1) := by decide +kernel
theorem dX6_fill_1 : decode cX6_fill 1 = .ok (.iload_n 1, 1) := by decide +kernel
theorem dX6_fill_2 : decode cX6_fill 2 = .ok (.invokestatic 73, 3) := by decide +kernel
theorem dX6_fill_5 : decode cX6_fill 5 = .ok (.ifCond .eq 10, 3) := by decide +kernel
theorem dX6_fill_8 : decode cX6_fill 8 = .ok (.iload_n 2, 1) := by decide +kernel
theorem dX6_fill_9 : decode cX6_fill 9 = .ok (.invokestatic 97, 3) := by decide +kernel
theorem dX6_fill_12 : decode cX6_fill 12 = .ok (.ifCond .ne 7, 3) := by decide +kernel
theorem dX6_fill_15 : decode cX6_fill 15 = .ok (.iconst 1, 1) := by decide +kernel
theorem dX6_fill_16 : decode cX6_fill 16 = .ok (.goto 44, 3) := by decide +kernel
theorem dX6_fill_19 : decode cX6_fill 19 = .ok (.iload_n 3, 1) := by decide +kernel
theorem dX6_fill_20 : decode cX6_fill 20 = .ok (.iconst 1, 1) := by decide +kernel
theorem dX6_fill_21 : decode cX6_fill 21 = .ok (.sipush 1000, 3) := by decide +kernel
theorem dX6_fill_24 : decode cX6_fill 24 = .ok (.invokestatic 63, 3) := by decide +kernel
theorem dX6_fill_27 : decode cX6_fill 27 = .ok (.ifCond .eq 15, 3) := by decide +kernel
theorem dX6_fill_30 : decode cX6_fill 30 = .ok (.iload 4, 2) := by decide +kernel
theorem dX6_fill_32 : decode cX6_fill 32 = .ok (.iconst 0, 1) := by decide +kernel
theorem dX6_fill_33 : decode cX6_fill 33 = .ok (.sipush 1000, 3) := by decide +kernel
theorem dX6_fill_36 : decode cX6_fill 36 = .ok (.invokestatic 63, 3) := by decide +kernel
theorem dX6_fill_39 : decode cX6_fill 39 = .ok (.ifCond .ne 7, 3) := by decide +kernel
theorem dX6_fill_42 : decode cX6_fill 42 = .ok (.iconst 2, 1) := by decide +kernel
theorem dX6_fill_43 : decode cX6_fill 43 = .ok (.goto 17, 3) := by decide +kernel
theorem dX6_fill_46 : decode cX6_fill 46 = .ok (.aload_n 0, 1) := by decide +kernel
theorem dX6_fill_47 : decode cX6_fill 47 = .ok (.getfield 67, 3) := by decide +kernel
theorem dX6_fill_50 : decode cX6_fill 50 = .ok (.bipush 40, 2) := by decide +kernel
theorem dX6_fill_52 : decode cX6_fill 52 = .ok (.if_icmp .ne 7, 3) := by decide +kernel
theorem dX6_fill_55 : decode cX6_fill 55 = .ok (.iconst 3, 1) := by decide +kernel
theorem dX6_fill_56 : decode cX6_fill 56 = .ok (.goto 4, 3) := by decide +kernel
theorem dX6_fill_59 : decode cX6_fill 59 = .ok (.iconst 0, 1) := by decide +kernel
theorem dX6_fill_60 : decode cX6_fill 60 = .ok (.putfield 60, 3) := by decide +kernel
theorem dX6_fill_63 : decode cX6_fill 63 = .ok (.aload_n 0, 1) := by decide +kernel
theorem dX6_fill_64 : decode cX6_fill 64 = .ok (.getfield 60, 3) := by decide +kernel
theorem dX6_fill_67 : decode cX6_fill 67 = .ok (.ifCond .le 5, 3) := by decide +kernel
theorem dX6_fill_70 : decode cX6_fill 70 = .ok (.iconst 0, 1) := by decide +kernel
theorem dX6_fill_71 : decode cX6_fill 71 = .ok (.ireturn, 1) := by decide +kernel
theorem dX6_fill_72 : decode cX6_fill 72 = .ok (.aload_n 0, 1) := by decide +kernel
theorem dX6_fill_73 : decode cX6_fill 73 = .ok (.iload_n 1, 1) := by decide +kernel
theorem dX6_fill_74 : decode cX6_fill 74 = .ok (.iload_n 2, 1) := by decide +kernel
theorem dX6_fill_75 : decode cX6_fill 75 = .ok (.iload 4, 2) := by decide +kernel
theorem dX6_fill_77 : decode cX6_fill 77 = .ok (.invokevirtual 100, 3) := by decide +kernel
theorem dX6_fill_80 : decode cX6_fill 80 = .ok (.istore 5, 2) := by decide +kernel
theorem dX6_fill_82 : decode cX6_fill 82 = .ok (.aload_n 0, 1) := by decide +kernel
theorem dX6_fill_83 : decode cX6_fill 83 = .ok (.iload 5, 2) := by decide +kernel
theorem dX6_fill_85 : decode cX6_fill 85 = .ok (.iload_n 3, 1) := by decide +kernel
theorem dX6_fill_86 : decode cX6_fill 86 = .ok (.iconst 0, 1) := by decide +kernel
theorem dX6_fill_87 : decode cX6_fill 87 = .ok (.invokevirtual 104, 3) := by decide +kernel
theorem dX6_fill_90 : decode cX6_fill 90 = .ok (.iload 5, 2) := by decide +kernel
theorem dX6_fill_92 : decode cX6_fill 92 = .ok (.ireturn, 1) := by decide +kernel
set_option maxRecDepth 20000 in
theorem ggX6_move_X6_isLot : GoodIn wsX6_move wsX6_isLot := goodIn_r _ [11, 4, 12, 13, 10, 14, 39, 40, 41, 42, 43, 44, 45, 46, 47, 48, 49, 50, 51, 52, 53, 54, 55, 56, 57, 58, 59, 60] (by decide +kernel) (by decide +kernel)
set_option maxRecDepth 20000 in
theorem gX6_move_X6_isLot : GoodIn wsX6_move (wsV RX6 108 RX6 yX6_isLot wsX6_isLot) := goodIn_app (goodIn_of _ (by decide +kernel)) ggX6_move_X6_isLot
set_option maxRecDepth 20000 in
theorem ggX6_move_X6_isDepot : GoodIn wsX6_move wsX6_isDepot := goodIn_r _ [17, 12, 13, 10, 14] (by decide +kernel) (by decide +kernel)
set_option maxRecDepth 20000 in
theorem gX6_move_X6_isDepot : GoodIn wsX6_move (va_wsS RX6 73 yX6_isDepot wsX6_isDepot) := goodIn_app (goodIn_of _ (by decide +kernel)) ggX6_move_X6_isDepot
set_option maxRecDepth 20000 in
theorem ggX6_move_X6_in : GoodIn wsX6_move wsX6_in := goodIn_r _ [14] (by decide +kernel) (by decide +kernel)
set_option maxRecDepth 20000 in
theorem gX6_move_X6_in : GoodIn wsX6_move (va_wsS RX6 63 yX6_in wsX6_in) := goodIn_app (goodIn_of _ (by decide +kernel)) ggX6_move_X6_in
set_option maxRecDepth 20000 in
theorem ggX6_move_X6_isCut : GoodIn wsX6_move wsX6_isCut := goodIn_r _ [21, 22, 23, 24, 12, 13, 10, 14, 39, 40, 41, 42, 43, 44, 45, 46, 47, 48, 49, 50, 51, 52, 53, 54, 55, 56, 57, 58, 59, 60] (by decide +kernel) (by decide +kernel)
set_option maxRecDepth 20000 in
theorem gX6_move_X6_isCut : GoodIn wsX6_move (wsV RX6 81 RX6 yX6_isCut wsX6_isCut) := goodIn_app (goodIn_of _ (by decide +kernel)) ggX6_move_X6_isCut
set_option maxRecDepth 20000 in
theorem ggX6_move_X6_makes : GoodIn wsX6_move wsX6_makes := goodIn_r _ [28, 2, 4, 5, 6, 3, 39, 40, 41, 42, 43, 44, 45, 46, 47, 48, 49, 50, 51, 52, 53, 54, 55, 56, 57, 58, 59, 60] (by decide +kernel) (by decide +kernel)
set_option maxRecDepth 20000 in
theorem gX6_move_X6_makes : GoodIn wsX6_move (wsV RX6 100 RX6 yX6_makes wsX6_makes) := goodIn_app (goodIn_of _ (by decide +kernel)) ggX6_move_X6_makes
set_option maxRecDepth 20000 in
theorem ggX6_move_X6_changes : GoodIn wsX6_move wsX6_changes := goodIn_r _ [32, 3, 33, 34, 35, 36, 37, 38, 39, 40, 41, 42, 43, 44, 45, 46, 47, 48, 49, 50, 51, 52, 53, 54, 55, 56, 57, 58, 59, 60] (by decide +kernel) (by decide +kernel)
set_option maxRecDepth 20000 in
theorem gX6_move_X6_changes : GoodIn wsX6_move (wsV RX6 104 RX6 yX6_changes wsX6_changes) := goodIn_app (goodIn_of _ (by decide +kernel)) ggX6_move_X6_changes
theorem dX6_move_0 : decode cX6_move 0 = .ok (.aload_n 0, 1) := by decide +kernel
theorem dX6_move_1 : decode cX6_move 1 = .ok (.aload_n 0, 1) := by decide +kernel
theorem dX6_move_2 : decode cX6_move 2 = .ok (.iload_n 1, 1) := by decide +kernel
theorem dX6_move_3 : decode cX6_move 3 = .ok (.invokevirtual 108, 3) := by decide +kernel
theorem dX6_move_6 : decode cX6_move 6 = .ok (.ifCond .eq 10, 3) := by decide +kernel
theorem dX6_move_9 : decode cX6_move 9 = .ok (.iload_n 2, 1) := by decide +kernel
theorem dX6_move_10 : decode cX6_move 10 = .ok (.invokestatic 73, 3) := by decide +kernel
theorem dX6_move_13 : decode cX6_move 13 = .ok (.ifCond .ne 7, 3) := by decide +kernel
theorem dX6_move_16 : decode cX6_move 16 = .ok (.iconst 1, 1) := by decide +kernel
theorem dX6_move_17 : decode cX6_move 17 = .ok (.goto 4, 3) := by decide +kernel
theorem dX6_move_20 : decode cX6_move 20 = .ok (.iconst 0, 1) := by decide +kernel
theorem dX6_move_21 : decode cX6_move 21 = .ok (.putfield 60, 3) := by decide +kernel
theorem dX6_move_24 : decode cX6_move 24 = .ok (.aload_n 0, 1) := by decide +kernel
theorem dX6_move_25 : decode cX6_move 25 = .ok (.getfield 60, 3) := by decide +kernel
theorem dX6_move_28 : decode cX6_move 28 = .ok (.ifCond .ne 77, 3) := by decide +kernel
theorem dX6_move_31 : decode cX6_move 31 = .ok (.aload_n 0, 1) := by decide +kernel
theorem dX6_move_32 : decode cX6_move 32 = .ok (.aload_n 0, 1) := by decide +kernel
theorem dX6_move_33 : decode cX6_move 33 = .ok (.getfield 24, 3) := by decide +kernel
theorem dX6_move_36 : decode cX6_move 36 = .ok (.iload_n 1, 1) := by decide +kernel
theorem dX6_move_37 : decode cX6_move 37 = .ok (.iaload, 1) := by decide +kernel
theorem dX6_move_38 : decode cX6_move 38 = .ok (.iload_n 2, 1) := by decide +kernel
theorem dX6_move_39 : decode cX6_move 39 = .ok (.if_icmp .eq 14, 3) := by decide +kernel
theorem dX6_move_42 : decode cX6_move 42 = .ok (.iload_n 3, 1) := by decide +kernel
theorem dX6_move_43 : decode cX6_move 43 = .ok (.iconst 1, 1) := by decide +kernel
theorem dX6_move_44 : decode cX6_move 44 = .ok (.sipush 1000, 3) := by decide +kernel
theorem dX6_move_47 : decode cX6_move 47 = .ok (.invokestatic 63, 3) := by decide +kernel
theorem dX6_move_50 : decode cX6_move 50 = .ok (.ifCond .ne 7, 3) := by decide +kernel
theorem dX6_move_53 : decode cX6_move 53 = .ok (.iconst 2, 1) := by decide +kernel
theorem dX6_move_54 : decode cX6_move 54 = .ok (.goto 48, 3) := by decide +kernel
theorem dX6_move_57 : decode cX6_move 57 = .ok (.aload_n 0, 1) := by decide +kernel
theorem dX6_move_58 : decode cX6_move 58 = .ok (.aload_n 0, 1) := by decide +kernel
theorem dX6_move_59 : decode cX6_move 59 = .ok (.getfield 24, 3) := by decide +kernel
theorem dX6_move_62 : decode cX6_move 62 = .ok (.iload_n 1, 1) := by decide +kernel
theorem dX6_move_63 : decode cX6_move 63 = .ok (.iaload, 1) := by decide +kernel
theorem dX6_move_64 : decode cX6_move 64 = .ok (.invokevirtual 81, 3) := by decide +kernel
theorem dX6_move_67 : decode cX6_move 67 = .ok (.ifCond .ne 30, 3) := by decide +kernel
theorem dX6_move_70 : decode cX6_move 70 = .ok (.aload_n 0, 1) := by decide +kernel
theorem dX6_move_71 : decode cX6_move 71 = .ok (.iload_n 2, 1) := by decide +kernel
theorem dX6_move_72 : decode cX6_move 72 = .ok (.invokevirtual 81, 3) := by decide +kernel
theorem dX6_move_75 : decode cX6_move 75 = .ok (.ifCond .ne 22, 3) := by decide +kernel
theorem dX6_move_78 : decode cX6_move 78 = .ok (.aload_n 0, 1) := by decide +kernel
theorem dX6_move_79 : decode cX6_move 79 = .ok (.getfield 30, 3) := by decide +kernel
theorem dX6_move_82 : decode cX6_move 82 = .ok (.iload_n 1, 1) := by decide +kernel
theorem dX6_move_83 : decode cX6_move 83 = .ok (.iaload, 1) := by decide +kernel
theorem dX6_move_84 : decode cX6_move 84 = .ok (.iload_n 3, 1) := by decide +kernel
theorem dX6_move_85 : decode cX6_move 85 = .ok (.if_icmp .lt 12, 3) := by decide +kernel
theorem dX6_move_88 : decode cX6_move 88 = .ok (.aload_n 0, 1) := by decide +kernel
theorem dX6_move_89 : decode cX6_move 89 = .ok (.getfield 67, 3) := by decide +kernel
theorem dX6_move_92 : decode cX6_move 92 = .ok (.bipush 40, 2) := by decide +kernel
theorem dX6_move_94 : decode cX6_move 94 = .ok (.if_icmp .ne 7, 3) := by decide +kernel
theorem dX6_move_97 : decode cX6_move 97 = .ok (.iconst 3, 1) := by decide +kernel
theorem dX6_move_98 : decode cX6_move 98 = .ok (.goto 4, 3) := by decide +kernel
theorem dX6_move_101 : decode cX6_move 101 = .ok (.iconst 0, 1) := by decide +kernel
theorem dX6_move_102 : decode cX6_move 102 = .ok (.putfield 60, 3) := by decide +kernel
theorem dX6_move_105 : decode cX6_move 105 = .ok (.aload_n 0, 1) := by decide +kernel
theorem dX6_move_106 : decode cX6_move 106 = .ok (.getfield 60, 3) := by decide +kernel
theorem dX6_move_109 : decode cX6_move 109 = .ok (.ifCond .le 5, 3) := by decide +kernel
theorem dX6_move_112 : decode cX6_move 112 = .ok (.iconst 0, 1) := by decide +kernel
theorem dX6_move_113 : decode cX6_move 113 = .ok (.ireturn, 1) := by decide +kernel
theorem dX6_move_114 : decode cX6_move 114 = .ok (.aload_n 0, 1) := by decide +kernel
theorem dX6_move_115 : decode cX6_move 115 = .ok (.iload_n 2, 1) := by decide +kernel
theorem dX6_move_116 : decode cX6_move 116 = .ok (.aload_n 0, 1) := by decide +kernel
theorem dX6_move_117 : decode cX6_move 117 = .ok (.getfield 27, 3) := by decide +kernel
theorem dX6_move_120 : decode cX6_move 120 = .ok (.iload_n 1, 1) := by decide +kernel
theorem dX6_move_121 : decode cX6_move 121 = .ok (.iaload, 1) := by decide +kernel
theorem dX6_move_122 : decode cX6_move 122 = .ok (.aload_n 0, 1) := by decide +kernel
theorem dX6_move_123 : decode cX6_move 123 = .ok (.getfield 33, 3) := by decide +kernel
theorem dX6_move_126 : decode cX6_move 126 = .ok (.iload_n 1, 1) := by decide +kernel
theorem dX6_move_127 : decode cX6_move 127 = .ok (.iaload, 1) := by decide +kernel
theorem dX6_move_128 : decode cX6_move 128 = .ok (.invokevirtual 100, 3) := by decide +kernel
theorem dX6_move_131 : decode cX6_move 131 = .ok (.istore 4, 2) := by decide +kernel
theorem dX6_move_133 : decode cX6_move 133 = .ok (.aload_n 0, 1) := by decide +kernel
theorem dX6_move_134 : decode cX6_move 134 = .ok (.iload_n 1, 1) := by decide +kernel
theorem dX6_move_135 : decode cX6_move 135 = .ok (.iload_n 3, 1) := by decide +kernel
theorem dX6_move_136 : decode cX6_move 136 = .ok (.ineg, 1) := by decide +kernel
theorem dX6_move_137 : decode cX6_move 137 = .ok (.iconst 1, 1) := by decide +kernel
theorem dX6_move_138 : decode cX6_move 138 = .ok (.invokevirtual 104, 3) := by decide +kernel
theorem dX6_move_141 : decode cX6_move 141 = .ok (.aload_n 0, 1) := by decide +kernel
theorem dX6_move_142 : decode cX6_move 142 = .ok (.iload 4, 2) := by decide +kernel
theorem dX6_move_144 : decode cX6_move 144 = .ok (.iload_n 3, 1) := by decide +kernel
theorem dX6_move_145 : decode cX6_move 145 = .ok (.iconst 1, 1) := by decide +kernel
theorem dX6_move_146 : decode cX6_move 146 = .ok (.invokevirtual 104, 3) := by decide +kernel
theorem dX6_move_149 : decode cX6_move 149 = .ok (.iload 4, 2) := by decide +kernel
theorem dX6_move_151 : decode cX6_move 151 = .ok (.ireturn, 1) := by decide +kernel
set_option maxRecDepth 20000 in
theorem ggX6_count_X6_isLot : GoodIn wsX6_count wsX6_isLot := goodIn_r _ [8, 9, 10, 11, 7, 12, 30, 31, 32, 33, 34, 35, 36, 37, 38, 39, 40, 41, 42, 43, 44, 45, 46, 47, 48, 49, 50, 51] (by decide +kernel) (by decide +kernel)
set_option maxRecDepth 20000 in
theorem gX6_count_X6_isLot : GoodIn wsX6_count (wsV RX6 108 RX6 yX6_isLot wsX6_isLot) := goodIn_app (goodIn_of _ (by decide +kernel)) ggX6_count_X6_isLot
set_option maxRecDepth 20000 in
theorem ggX6_count_X6_in : GoodIn wsX6_count wsX6_in := goodIn_r _ [12] (by decide +kernel) (by decide +kernel)
set_option maxRecDepth 20000 in
theorem gX6_count_X6_in : GoodIn wsX6_count (va_wsS RX6 63 yX6_in wsX6_in) := goodIn_app (goodIn_of _ (by decide +kernel)) ggX6_count_X6_in
set_option maxRecDepth 20000 in
theorem ggX6_count_X6_isCut : GoodIn wsX6_count wsX6_isCut := goodIn_r _ [16, 17, 18, 19, 10, 11, 7, 12, 30, 31, 32, 33, 34, 35, 36, 37, 38, 39, 40, 41, 42, 43, 44, 45, 46, 47, 48, 49, 50, 51] (by decide +kernel) (by decide +kernel)
set_option maxRecDepth 20000 in
theorem gX6_count_X6_isCut : GoodIn wsX6_count (wsV RX6 81 RX6 yX6_isCut wsX6_isCut) := goodIn_app (goodIn_of _ (by decide +kernel)) ggX6_count_X6_isCut
set_option maxRecDepth 20000 in
theorem ggX6_count_X6_changes : GoodIn wsX6_count wsX6_changes := goodIn_r _ [23, 3, 24, 25, 26, 27, 28, 29, 30, 31, 32, 33, 34, 35, 36, 37, 38, 39, 40, 41, 42, 43, 44, 45, 46, 47, 48, 49, 50, 51] (by decide +kernel) (by decide +kernel)
set_option maxRecDepth 20000 in
theorem gX6_count_X6_changes : GoodIn wsX6_count (wsV RX6 104 RX6 yX6_changes wsX6_changes) := goodIn_app (goodIn_of _ (by decide +kernel)) ggX6_count_X6_changes
theorem dX6_count_0 : decode cX6_count 0 = .ok (.aload_n 0, 1) := by decide +kernel
theorem dX6_count_1 : decode cX6_count 1 = .ok (.aload_n 0, 1) := by decide +kernel
theorem dX6_count_2 : decode cX6_count 2 = .ok (.iload_n 1, 1) := by decide +kernel
theorem dX6_count_3 : decode cX6_count 3 = .ok (.invokevirtual 108, 3) := by decide +kernel
theorem dX6_count_6 : decode cX6_count 6 = .ok (.ifCond .ne 7, 3) := by decide +kernel
theorem dX6_count_9 : decode cX6_count 9 = .ok (.iconst 1, 1) := by decide +kernel
theorem dX6_count_10 : decode cX6_count 10 = .ok (.goto 36, 3) := by decide +kernel
theorem dX6_count_13 : decode cX6_count 13 = .ok (.iload_n 2, 1) := by decide +kernel
theorem dX6_count_14 : decode cX6_count 14 = .ok (.iconst 0, 1) := by decide +kernel
theorem dX6_count_15 : decode cX6_count 15 = .ok (.sipush 1000, 3) := by decide +kernel
theorem dX6_count_18 : decode cX6_count 18 = .ok (.invokestatic 63, 3) := by decide +kernel
theorem dX6_count_21 : decode cX6_count 21 = .ok (.ifCond .ne 7, 3) := by decide +kernel
theorem dX6_count_24 : decode cX6_count 24 = .ok (.iconst 2, 1) := by decide +kernel
theorem dX6_count_25 : decode cX6_count 25 = .ok (.goto 21, 3) := by decide +kernel
theorem dX6_count_28 : decode cX6_count 28 = .ok (.aload_n 0, 1) := by decide +kernel
theorem dX6_count_29 : decode cX6_count 29 = .ok (.aload_n 0, 1) := by decide +kernel
theorem dX6_count_30 : decode cX6_count 30 = .ok (.getfield 24, 3) := by decide +kernel
theorem dX6_count_33 : decode cX6_count 33 = .ok (.iload_n 1, 1) := by decide +kernel
theorem dX6_count_34 : decode cX6_count 34 = .ok (.iaload, 1) := by decide +kernel
theorem dX6_count_35 : decode cX6_count 35 = .ok (.invokevirtual 81, 3) := by decide +kernel
theorem dX6_count_38 : decode cX6_count 38 = .ok (.ifCond .eq 7, 3) := by decide +kernel
theorem dX6_count_41 : decode cX6_count 41 = .ok (.iconst 3, 1) := by decide +kernel
theorem dX6_count_42 : decode cX6_count 42 = .ok (.goto 4, 3) := by decide +kernel
theorem dX6_count_45 : decode cX6_count 45 = .ok (.iconst 0, 1) := by decide +kernel
theorem dX6_count_46 : decode cX6_count 46 = .ok (.putfield 60, 3) := by decide +kernel
theorem dX6_count_49 : decode cX6_count 49 = .ok (.aload_n 0, 1) := by decide +kernel
theorem dX6_count_50 : decode cX6_count 50 = .ok (.getfield 60, 3) := by decide +kernel
theorem dX6_count_53 : decode cX6_count 53 = .ok (.ifCond .le 5, 3) := by decide +kernel
theorem dX6_count_56 : decode cX6_count 56 = .ok (.iconst 0, 1) := by decide +kernel
theorem dX6_count_57 : decode cX6_count 57 = .ok (.ireturn, 1) := by decide +kernel
theorem dX6_count_58 : decode cX6_count 58 = .ok (.iload_n 2, 1) := by decide +kernel
theorem dX6_count_59 : decode cX6_count 59 = .ok (.aload_n 0, 1) := by decide +kernel
theorem dX6_count_60 : decode cX6_count 60 = .ok (.getfield 30, 3) := by decide +kernel
theorem dX6_count_63 : decode cX6_count 63 = .ok (.iload_n 1, 1) := by decide +kernel
theorem dX6_count_64 : decode cX6_count 64 = .ok (.iaload, 1) := by decide +kernel
theorem dX6_count_65 : decode cX6_count 65 = .ok (.isub, 1) := by decide +kernel
theorem dX6_count_66 : decode cX6_count 66 = .ok (.istore_n 3, 1) := by decide +kernel
theorem dX6_count_67 : decode cX6_count 67 = .ok (.aload_n 0, 1) := by decide +kernel
theorem dX6_count_68 : decode cX6_count 68 = .ok (.iload_n 1, 1) := by decide +kernel
theorem dX6_count_69 : decode cX6_count 69 = .ok (.iload_n 3, 1) := by decide +kernel
theorem dX6_count_70 : decode cX6_count 70 = .ok (.iconst 5, 1) := by decide +kernel
theorem dX6_count_71 : decode cX6_count 71 = .ok (.invokevirtual 104, 3) := by decide +kernel
theorem dX6_count_74 : decode cX6_count 74 = .ok (.iload_n 3, 1) := by decide +kernel
theorem dX6_count_75 : decode cX6_count 75 = .ok (.ireturn, 1) := by decide +kernel
set_option maxRecDepth 20000 in
theorem ggX6_setPeople_X6_in : GoodIn wsX6_setPeople wsX6_in := goodIn_r _ [6] (by decide +kernel) (by decide +kernel)
set_option maxRecDepth 20000 in
theorem gX6_setPeople_X6_in : GoodIn wsX6_setPeople (va_wsS RX6 63 yX6_in wsX6_in) := goodIn_app (goodIn_of _ (by decide +kernel)) ggX6_setPeople_X6_in
theorem dX6_setPeople_0 : decode cX6_setPeople 0 = .ok (.aload_n 0, 1) := by decide +kernel
theorem dX6_setPeople_1 : decode cX6_setPeople 1 = .ok (.iload_n 1, 1) := by decide +kernel
theorem dX6_setPeople_2 : decode cX6_setPeople 2 = .ok (.iconst 0, 1) := by decide +kernel
theorem dX6_setPeople_3 : decode cX6_setPeople 3 = .ok (.iconst 2, 1) := by decide +kernel
theorem dX6_setPeople_4 : decode cX6_setPeople 4 = .ok (.invokestatic 63, 3) := by decide +kernel
theorem dX6_setPeople_7 : decode cX6_setPeople 7 = .ok (.ifCond .ne 7, 3) := by decide +kernel
theorem dX6_setPeople_10 : decode cX6_setPeople 10 = .ok (.iconst 1, 1) := by decide +kernel
theorem dX6_setPeople_11 : decode cX6_setPeople 11 = .ok (.goto 18, 3) := by decide +kernel
theorem dX6_setPeople_14 : decode cX6_setPeople 14 = .ok (.iload_n 2, 1) := by decide +kernel
theorem dX6_setPeople_15 : decode cX6_setPeople 15 = .ok (.iconst 0, 1) := by decide +kernel
theorem dX6_setPeople_16 : decode cX6_setPeople 16 = .ok (.bipush 20, 2) := by decide +kernel
theorem dX6_setPeople_18 : decode cX6_setPeople 18 = .ok (.invokestatic 63, 3) := by decide +kernel
theorem dX6_setPeople_21 : decode cX6_setPeople 21 = .ok (.ifCond .eq 7, 3) := by decide +kernel
theorem dX6_setPeople_24 : decode cX6_setPeople 24 = .ok (.iconst 0, 1) := by decide +kernel
theorem dX6_setPeople_25 : decode cX6_setPeople 25 = .ok (.goto 4, 3) := by decide +kernel
theorem dX6_setPeople_28 : decode cX6_setPeople 28 = .ok (.iconst 2, 1) := by decide +kernel
theorem dX6_setPeople_29 : decode cX6_setPeople 29 = .ok (.putfield 60, 3) := by decide +kernel
theorem dX6_setPeople_32 : decode cX6_setPeople 32 = .ok (.aload_n 0, 1) := by decide +kernel
theorem dX6_setPeople_33 : decode cX6_setPeople 33 = .ok (.getfield 60, 3) := by decide +kernel
theorem dX6_setPeople_36 : decode cX6_setPeople 36 = .ok (.ifCond .le 5, 3) := by decide +kernel
theorem dX6_setPeople_39 : decode cX6_setPeople 39 = .ok (.iconst 0, 1) := by decide +kernel
theorem dX6_setPeople_40 : decode cX6_setPeople 40 = .ok (.ireturn, 1) := by decide +kernel
theorem dX6_setPeople_41 : decode cX6_setPeople 41 = .ok (.aload_n 0, 1) := by decide +kernel
theorem dX6_setPeople_42 : decode cX6_setPeople 42 = .ok (.getfield 36, 3) := by decide +kernel
theorem dX6_setPeople_45 : decode cX6_setPeople 45 = .ok (.iload_n 1, 1) := by decide +kernel
theorem dX6_setPeople_46 : decode cX6_setPeople 46 = .ok (.iaload, 1) := by decide +kernel
theorem dX6_setPeople_47 : decode cX6_setPeople 47 = .ok (.istore_n 3, 1) := by decide +kernel
theorem dX6_setPeople_48 : decode cX6_setPeople 48 = .ok (.aload_n 0, 1) := by decide +kernel
theorem dX6_setPeople_49 : decode cX6_setPeople 49 = .ok (.getfield 36, 3) := by decide +kernel
theorem dX6_setPeople_52 : decode cX6_setPeople 52 = .ok (.iload_n 1, 1) := by decide +kernel
theorem dX6_setPeople_53 : decode cX6_setPeople 53 = .ok (.iload_n 2, 1) := by decide +kernel
theorem dX6_setPeople_54 : decode cX6_setPeople 54 = .ok (.iastore, 1) := by decide +kernel
theorem dX6_setPeople_55 : decode cX6_setPeople 55 = .ok (.iload_n 3, 1) := by decide +kernel
theorem dX6_setPeople_56 : decode cX6_setPeople 56 = .ok (.ireturn, 1) := by decide +kernel
theorem dX6_allNeed_0 : decode cX6_allNeed 0 = .ok (.iconst 0, 1) := by decide +kernel
theorem dX6_allNeed_1 : decode cX6_allNeed 1 = .ok (.istore_n 1, 1) := by decide +kernel
theorem dX6_allNeed_2 : decode cX6_allNeed 2 = .ok (.iconst 0, 1) := by decide +kernel
theorem dX6_allNeed_3 : decode cX6_allNeed 3 = .ok (.istore_n 2, 1) := by decide +kernel
theorem dX6_allNeed_4 : decode cX6_allNeed 4 = .ok (.iload_n 2, 1) := by decide +kernel
theorem dX6_allNeed_5 : decode cX6_allNeed 5 = .ok (.iconst 3, 1) := by decide +kernel
theorem dX6_allNeed_6 : decode cX6_allNeed 6 = .ok (.if_icmp .ge 22, 3) := by decide +kernel
theorem dX6_allNeed_9 : decode cX6_allNeed 9 = .ok (.iload_n 1, 1) := by decide +kernel
theorem dX6_allNeed_10 : decode cX6_allNeed 10 = .ok (.aload_n 0, 1) := by decide +kernel
theorem dX6_allNeed_11 : decode cX6_allNeed 11 = .ok (.getfield 36, 3) := by decide +kernel
theorem dX6_allNeed_14 : decode cX6_allNeed 14 = .ok (.iload_n 2, 1) := by decide +kernel
theorem dX6_allNeed_15 : decode cX6_allNeed 15 = .ok (.iaload, 1) := by decide +kernel
theorem dX6_allNeed_16 : decode cX6_allNeed 16 = .ok (.iconst 2, 1) := by decide +kernel
theorem dX6_allNeed_17 : decode cX6_allNeed 17 = .ok (.iload_n 2, 1) := by decide +kernel
theorem dX6_allNeed_18 : decode cX6_allNeed 18 = .ok (.iadd, 1) := by decide +kernel
theorem dX6_allNeed_19 : decode cX6_allNeed 19 = .ok (.imul, 1) := by decide +kernel
theorem dX6_allNeed_20 : decode cX6_allNeed 20 = .ok (.iadd, 1) := by decide +kernel
theorem dX6_allNeed_21 : decode cX6_allNeed 21 = .ok (.istore_n 1, 1) := by decide +kernel
theorem dX6_allNeed_22 : decode cX6_allNeed 22 = .ok (.iinc 2 1, 3) := by decide +kernel
theorem dX6_allNeed_25 : decode cX6_allNeed 25 = .ok (.goto (-21), 3) := by decide +kernel
theorem dX6_allNeed_28 : decode cX6_allNeed 28 = .ok (.iload_n 1, 1) := by decide +kernel
theorem dX6_allNeed_29 : decode cX6_allNeed 29 = .ok (.ireturn, 1) := by decide +kernel
theorem dX6_isFoodHere_0 : decode cX6_isFoodHere 0 = .ok (.aload_n 0, 1) := by decide +kernel
theorem dX6_isFoodHere_1 : decode cX6_isFoodHere 1 = .ok (.getfield 24, 3) := by decide +kernel
theorem dX6_isFoodHere_4 : decode cX6_isFoodHere 4 = .ok (.iload_n 1, 1) := by decide +kernel
theorem dX6_isFoodHere_5 : decode cX6_isFoodHere 5 = .ok (.iaload, 1) := by decide +kernel
theorem dX6_isFoodHere_6 : decode cX6_isFoodHere 6 = .ok (.ifCond .ne 17, 3) := by decide +kernel
theorem dX6_isFoodHere_9 : decode cX6_isFoodHere 9 = .ok (.aload_n 0, 1) := by decide +kernel
theorem dX6_isFoodHere_10 : decode cX6_isFoodHere 10 = .ok (.getfield 27, 3) := by decide +kernel
theorem dX6_isFoodHere_13 : decode cX6_isFoodHere 13 = .ok (.iload_n 1, 1) := by decide +kernel
theorem dX6_isFoodHere_14 : decode cX6_isFoodHere 14 = .ok (.iaload, 1) := by decide +kernel
theorem dX6_isFoodHere_15 : decode cX6_isFoodHere 15 = .ok (.iconst 3, 1) := by decide +kernel
theorem dX6_isFoodHere_16 : decode cX6_isFoodHere 16 = .ok (.if_icmp .ge 7, 3) := by decide +kernel
theorem dX6_isFoodHere_19 : decode cX6_isFoodHere 19 = .ok (.iconst 1, 1) := by decide +kernel
theorem dX6_isFoodHere_20 : decode cX6_isFoodHere 20 = .ok (.goto 4, 3) := by decide +kernel
theorem dX6_isFoodHere_23 : decode cX6_isFoodHere 23 = .ok (.iconst 0, 1) := by decide +kernel
theorem dX6_isFoodHere_24 : decode cX6_isFoodHere 24 = .ok (.ireturn, 1) := by decide +kernel
set_option maxRecDepth 20000 in
theorem ggX6_allFood_X6_isFoodHere : GoodIn wsX6_allFood wsX6_isFoodHere := goodIn_r _ [7, 8, 9, 10, 11, 12, 13, 14, 15, 16, 17, 18, 19, 20, 21, 22, 23, 24, 25, 26, 27, 28, 29, 30, 31] (by decide +kernel) (by decide +kernel)
set_option maxRecDepth 20000 in
theorem gX6_allFood_X6_isFoodHere : GoodIn wsX6_allFood (wsV RX6 111 RX6 yX6_isFoodHere wsX6_isFoodHere) := goodIn_app (goodIn_of _ (by decide +kernel)) ggX6_allFood_X6_isFoodHere
theorem dX6_allFood_0 : decode cX6_allFood 0 = .ok (.iconst 0, 1) := by decide +kernel
theorem dX6_allFood_1 : decode cX6_allFood 1 = .ok (.istore_n 1, 1) := by decide +kernel
theorem dX6_allFood_2 : decode cX6_allFood 2 = .ok (.iconst 0, 1) := by decide +kernel
theorem dX6_allFood_3 : decode cX6_allFood 3 = .ok (.istore_n 2, 1) := by decide +kernel
theorem dX6_allFood_4 : decode cX6_allFood 4 = .ok (.iload_n 2, 1) := by decide +kernel
theorem dX6_allFood_5 : decode cX6_allFood 5 = .ok (.aload_n 0, 1) := by decide +kernel
theorem dX6_allFood_6 : decode cX6_allFood 6 = .ok (.getfield 67, 3) := by decide +kernel
theorem dX6_allFood_9 : decode cX6_allFood 9 = .ok (.if_icmp .ge 30, 3) := by decide +kernel
theorem dX6_allFood_12 : decode cX6_allFood 12 = .ok (.iload_n 1, 1) := by decide +kernel
theorem dX6_allFood_13 : decode cX6_allFood 13 = .ok (.aload_n 0, 1) := by decide +kernel
theorem dX6_allFood_14 : decode cX6_allFood 14 = .ok (.iload_n 2, 1) := by decide +kernel
theorem dX6_allFood_15 : decode cX6_allFood 15 = .ok (.invokevirtual 111, 3) := by decide +kernel
theorem dX6_allFood_18 : decode cX6_allFood 18 = .ok (.ifCond .eq 12, 3) := by decide +kernel
theorem dX6_allFood_21 : decode cX6_allFood 21 = .ok (.aload_n 0, 1) := by decide +kernel
theorem dX6_allFood_22 : decode cX6_allFood 22 = .ok (.getfield 30, 3) := by decide +kernel
theorem dX6_allFood_25 : decode cX6_allFood 25 = .ok (.iload_n 2, 1) := by decide +kernel
theorem dX6_allFood_26 : decode cX6_allFood 26 = .ok (.iaload, 1) := by decide +kernel
theorem dX6_allFood_27 : decode cX6_allFood 27 = .ok (.goto 4, 3) := by decide +kernel
theorem dX6_allFood_30 : decode cX6_allFood 30 = .ok (.iconst 0, 1) := by decide +kernel
theorem dX6_allFood_31 : decode cX6_allFood 31 = .ok (.iadd, 1) := by decide +kernel
theorem dX6_allFood_32 : decode cX6_allFood 32 = .ok (.istore_n 1, 1) := by decide +kernel
theorem dX6_allFood_33 : decode cX6_allFood 33 = .ok (.iinc 2 1, 3) := by decide +kernel
theorem dX6_allFood_36 : decode cX6_allFood 36 = .ok (.goto (-32), 3) := by decide +kernel
theorem dX6_allFood_39 : decode cX6_allFood 39 = .ok (.iload_n 1, 1) := by decide +kernel
theorem dX6_allFood_40 : decode cX6_allFood 40 = .ok (.ireturn, 1) := by decide +kernel
theorem dX6_shares_0 : decode cX6_shares 0 = .ok (.iload_n 2, 1) := by decide +kernel
theorem dX6_shares_1 : decode cX6_shares 1 = .ok (.istore_n 3, 1) := by decide +kernel
theorem dX6_shares_2 : decode cX6_shares 2 = .ok (.iconst 0, 1) := by decide +kernel
theorem dX6_shares_3 : decode cX6_shares 3 = .ok (.istore 4, 2) := by decide +kernel
theorem dX6_shares_5 : decode cX6_shares 5 = .ok (.iload 4, 2) := by decide +kernel
theorem dX6_shares_7 : decode cX6_shares 7 = .ok (.iconst 3, 1) := by decide +kernel
theorem dX6_shares_8 : decode cX6_shares 8 = .ok (.if_icmp .ge 64, 3) := by decide +kernel
theorem dX6_shares_11 : decode cX6_shares 11 = .ok (.aload_n 0, 1) := by decide +kernel
theorem dX6_shares_12 : decode cX6_shares 12 = .ok (.getfield 54, 3) := by decide +kernel
theorem dX6_shares_15 : decode cX6_shares 15 = .ok (.iload 4, 2) := by decide +kernel
theorem dX6_shares_17 : decode cX6_shares 17 = .ok (.aload_n 0, 1) := by decide +kernel
theorem dX6_shares_18 : decode cX6_shares 18 = .ok (.getfield 36, 3) := by decide +kernel
theorem dX6_shares_21 : decode cX6_shares 21 = .ok (.iload 4, 2) := by decide +kernel
theorem dX6_shares_23 : decode cX6_shares 23 = .ok (.iaload, 1) := by decide +kernel
theorem dX6_shares_24 : decode cX6_shares 24 = .ok (.iconst 2, 1) := by decide +kernel
theorem dX6_shares_25 : decode cX6_shares 25 = .ok (.iload 4, 2) := by decide +kernel
theorem dX6_shares_27 : decode cX6_shares 27 = .ok (.iadd, 1) := by decide +kernel
theorem dX6_shares_28 : decode cX6_shares 28 = .ok (.imul, 1) := by decide +kernel
theorem dX6_shares_29 : decode cX6_shares 29 = .ok (.iastore, 1) := by decide +kernel
theorem dX6_shares_30 : decode cX6_shares 30 = .ok (.aload_n 0, 1) := by decide +kernel
theorem dX6_shares_31 : decode cX6_shares 31 = .ok (.getfield 57, 3) := by decide +kernel
theorem dX6_shares_34 : decode cX6_shares 34 = .ok (.iload 4, 2) := by decide +kernel
theorem dX6_shares_36 : decode cX6_shares 36 = .ok (.iload_n 1, 1) := by decide +kernel
theorem dX6_shares_37 : decode cX6_shares 37 = .ok (.ifCond .ne 7, 3) := by decide +kernel
theorem dX6_shares_40 : decode cX6_shares 40 = .ok (.iconst 0, 1) := by decide +kernel
theorem dX6_shares_41 : decode cX6_shares 41 = .ok (.goto 14, 3) := by decide +kernel
theorem dX6_shares_44 : decode cX6_shares 44 = .ok (.iload_n 2, 1) := by decide +kernel
theorem dX6_shares_45 : decode cX6_shares 45 = .ok (.aload_n 0, 1) := by decide +kernel
theorem dX6_shares_46 : decode cX6_shares 46 = .ok (.getfield 54, 3) := by decide +kernel
theorem dX6_shares_49 : decode cX6_shares 49 = .ok (.iload 4, 2) := by decide +kernel
theorem dX6_shares_51 : decode cX6_shares 51 = .ok (.iaload, 1) := by decide +kernel
theorem dX6_shares_52 : decode cX6_shares 52 = .ok (.imul, 1) := by decide +kernel
theorem dX6_shares_53 : decode cX6_shares 53 = .ok (.iload_n 1, 1) := by decide +kernel
theorem dX6_shares_54 : decode cX6_shares 54 = .ok (.idiv, 1) := by decide +kernel
theorem dX6_shares_55 : decode cX6_shares 55 = .ok (.iastore, 1) := by decide +kernel
theorem dX6_shares_56 : decode cX6_shares 56 = .ok (.iload_n 3, 1) := by decide +kernel
theorem dX6_shares_57 : decode cX6_shares 57 = .ok (.aload_n 0, 1) := by decide +kernel
theorem dX6_shares_58 : decode cX6_shares 58 = .ok (.getfield 57, 3) := by decide +kernel
theorem dX6_shares_61 : decode cX6_shares 61 = .ok (.iload 4, 2) := by decide +kernel
theorem dX6_shares_63 : decode cX6_shares 63 = .ok (.iaload, 1) := by decide +kernel
theorem dX6_shares_64 : decode cX6_shares 64 = .ok (.isub, 1) := by decide +kernel
theorem dX6_shares_65 : decode cX6_shares 65 = .ok (.istore_n 3, 1) := by decide +kernel
theorem dX6_shares_66 : decode cX6_shares 66 = .ok (.iinc 4 1, 3) := by decide +kernel
theorem dX6_shares_69 : decode cX6_shares 69 = .ok (.goto (-64), 3) := by decide +kernel
theorem dX6_shares_72 : decode cX6_shares 72 = .ok (.iconst 2, 1) := by decide +kernel
theorem dX6_shares_73 : decode cX6_shares 73 = .ok (.istore 4, 2) := by decide +kernel
theorem dX6_shares_75 : decode cX6_shares 75 = .ok (.iload 4, 2) := by decide +kernel
theorem dX6_shares_77 : decode cX6_shares 77 = .ok (.ifCond .lt 91, 3) := by decide +kernel
theorem dX6_shares_80 : decode cX6_shares 80 = .ok (.aload_n 0, 1) := by decide +kernel
theorem dX6_shares_81 : decode cX6_shares 81 = .ok (.getfield 54, 3) := by decide +kernel
theorem dX6_shares_84 : decode cX6_shares 84 = .ok (.iload 4, 2) := by decide +kernel
theorem dX6_shares_86 : decode cX6_shares 86 = .ok (.iaload, 1) := by decide +kernel
theorem dX6_shares_87 : decode cX6_shares 87 = .ok (.aload_n 0, 1) := by decide +kernel
theorem dX6_shares_88 : decode cX6_shares 88 = .ok (.getfield 57, 3) := by decide +kernel
theorem dX6_shares_91 : decode cX6_shares 91 = .ok (.iload 4, 2) := by decide +kernel
theorem dX6_shares_93 : decode cX6_shares 93 = .ok (.iaload, 1) := by decide +kernel
theorem dX6_shares_94 : decode cX6_shares 94 = .ok (.isub, 1) := by decide +kernel
theorem dX6_shares_95 : decode cX6_shares 95 = .ok (.iload_n 3, 1) := by decide +kernel
theorem dX6_shares_96 : decode cX6_shares 96 = .ok (.if_icmp .ge 21, 3) := by decide +kernel
theorem dX6_shares_99 : decode cX6_shares 99 = .ok (.aload_n 0, 1) := by decide +kernel
theorem dX6_shares_100 : decode cX6_shares 100 = .ok (.getfield 54, 3) := by decide +kernel
theorem dX6_shares_103 : decode cX6_shares 103 = .ok (.iload 4, 2) := by decide +kernel
theorem dX6_shares_105 : decode cX6_shares 105 = .ok (.iaload, 1) := by decide +kernel
theorem dX6_shares_106 : decode cX6_shares 106 = .ok (.aload_n 0, 1) := by decide +kernel
theorem dX6_shares_107 : decode cX6_shares 107 = .ok (.getfield 57, 3) := by decide +kernel
theorem dX6_shares_110 : decode cX6_shares 110 = .ok (.iload 4, 2) := by decide +kernel
theorem dX6_shares_112 : decode cX6_shares 112 = .ok (.iaload, 1) := by decide +kernel
theorem dX6_shares_113 : decode cX6_shares 113 = .ok (.isub, 1) := by decide +kernel
theorem dX6_shares_114 : decode cX6_shares 114 = .ok (.goto 4, 3) := by decide +kernel
theorem dX6_shares_117 : decode cX6_shares 117 = .ok (.iload_n 3, 1) := by decide +kernel
theorem dX6_shares_118 : decode cX6_shares 118 = .ok (.istore 5, 2) := by decide +kernel
theorem dX6_shares_120 : decode cX6_shares 120 = .ok (.aload_n 0, 1) := by decide +kernel
theorem dX6_shares_121 : decode cX6_shares 121 = .ok (.getfield 57, 3) := by decide +kernel
theorem dX6_shares_124 : decode cX6_shares 124 = .ok (.iload 4, 2) := by decide +kernel
theorem dX6_shares_126 : decode cX6_shares 126 = .ok (.dup2, 1) := by decide +kernel
theorem dX6_shares_127 : decode cX6_shares 127 = .ok (.iaload, 1) := by decide +kernel
theorem dX6_shares_128 : decode cX6_shares 128 = .ok (.iload 5, 2) := by decide +kernel
theorem dX6_shares_130 : decode cX6_shares 130 = .ok (.iadd, 1) := by decide +kernel
theorem dX6_shares_131 : decode cX6_shares 131 = .ok (.iastore, 1) := by decide +kernel
theorem dX6_shares_132 : decode cX6_shares 132 = .ok (.iload_n 3, 1) := by decide +kernel
theorem dX6_shares_133 : decode cX6_shares 133 = .ok (.iload 5, 2) := by decide +kernel
theorem dX6_shares_135 : decode cX6_shares 135 = .ok (.isub, 1) := by decide +kernel
theorem dX6_shares_136 : decode cX6_shares 136 = .ok (.istore_n 3, 1) := by decide +kernel
theorem dX6_shares_137 : decode cX6_shares 137 = .ok (.aload_n 0, 1) := by decide +kernel
theorem dX6_shares_138 : decode cX6_shares 138 = .ok (.getfield 39, 3) := by decide +kernel
theorem dX6_shares_141 : decode cX6_shares 141 = .ok (.iload 4, 2) := by decide +kernel
theorem dX6_shares_143 : decode cX6_shares 143 = .ok (.dup2, 1) := by decide +kernel
theorem dX6_shares_144 : decode cX6_shares 144 = .ok (.iaload, 1) := by decide +kernel
theorem dX6_shares_145 : decode cX6_shares 145 = .ok (.aload_n 0, 1) := by decide +kernel
theorem dX6_shares_146 : decode cX6_shares 146 = .ok (.getfield 54, 3) := by decide +kernel
theorem dX6_shares_149 : decode cX6_shares 149 = .ok (.iload 4, 2) := by decide +kernel
theorem dX6_shares_151 : decode cX6_shares 151 = .ok (.iaload, 1) := by decide +kernel
theorem dX6_shares_152 : decode cX6_shares 152 = .ok (.aload_n 0, 1) := by decide +kernel
theorem dX6_shares_153 : decode cX6_shares 153 = .ok (.getfield 57, 3) := by decide +kernel
theorem dX6_shares_156 : decode cX6_shares 156 = .ok (.iload 4, 2) := by decide +kernel
theorem dX6_shares_158 : decode cX6_shares 158 = .ok (.iaload, 1) := by decide +kernel
theorem dX6_shares_159 : decode cX6_shares 159 = .ok (.isub, 1) := by decide +kernel
theorem dX6_shares_160 : decode cX6_shares 160 = .ok (.iadd, 1) := by decide +kernel
theorem dX6_shares_161 : decode cX6_shares 161 = .ok (.iastore, 1) := by decide +kernel
theorem dX6_shares_162 : decode cX6_shares 162 = .ok (.iinc 4 (-1), 3) := by decide +kernel
theorem dX6_shares_165 : decode cX6_shares 165 = .ok (.goto (-90), 3) := by decide +kernel
theorem dX6_shares_168 : decode cX6_shares 168 = .ok (.return_, 1) := by decide +kernel
set_option maxRecDepth 20000 in
theorem ggX6_nextLot_X6_isFoodHere : GoodIn wsX6_nextLot wsX6_isFoodHere := goodIn_r _ [8, 9, 10, 11, 12, 13, 14, 15, 16, 17, 18, 19, 20, 21, 22, 23, 24, 25, 26, 27, 28, 29, 30, 31, 32] (by decide +kernel) (by decide +kernel)
set_option maxRecDepth 20000 in
theorem gX6_nextLot_X6_isFoodHere : GoodIn wsX6_nextLot (wsV RX6 111 RX6 yX6_isFoodHere wsX6_isFoodHere) := goodIn_app (goodIn_of _ (by decide +kernel)) ggX6_nextLot_X6_isFoodHere
theorem dX6_nextLot_0 : decode cX6_nextLot 0 = .ok (.iconst (-1), 1) := by decide +kernel
theorem dX6_nextLot_1 : decode cX6_nextLot 1 = .ok (.istore_n 1, 1) := by decide +kernel
theorem dX6_nextLot_2 : decode cX6_nextLot 2 = .ok (.iconst 0, 1) := by decide +kernel
theorem dX6_nextLot_3 : decode cX6_nextLot 3 = .ok (.istore_n 2, 1) := by decide +kernel
theorem dX6_nextLot_4 : decode cX6_nextLot 4 = .ok (.iload_n 2, 1) := by decide +kernel
theorem dX6_nextLot_5 : decode cX6_nextLot 5 = .ok (.aload_n 0, 1) := by decide +kernel
theorem dX6_nextLot_6 : decode cX6_nextLot 6 = .ok (.getfield 67, 3) := by decide +kernel
theorem dX6_nextLot_9 : decode cX6_nextLot 9 = .ok (.if_icmp .ge 62, 3) := by decide +kernel
theorem dX6_nextLot_12 : decode cX6_nextLot 12 = .ok (.aload_n 0, 1) := by decide +kernel
theorem dX6_nextLot_13 : decode cX6_nextLot 13 = .ok (.iload_n 2, 1) := by decide +kernel
theorem dX6_nextLot_14 : decode cX6_nextLot 14 = .ok (.invokevirtual 111, 3) := by decide +kernel
theorem dX6_nextLot_17 : decode cX6_nextLot 17 = .ok (.ifCond .eq 36, 3) := by decide +kernel
theorem dX6_nextLot_20 : decode cX6_nextLot 20 = .ok (.aload_n 0, 1) := by decide +kernel
theorem dX6_nextLot_21 : decode cX6_nextLot 21 = .ok (.getfield 30, 3) := by decide +kernel
theorem dX6_nextLot_24 : decode cX6_nextLot 24 = .ok (.iload_n 2, 1) := by decide +kernel
theorem dX6_nextLot_25 : decode cX6_nextLot 25 = .ok (.iaload, 1) := by decide +kernel
theorem dX6_nextLot_26 : decode cX6_nextLot 26 = .ok (.ifCond .le 27, 3) := by decide +kernel
theorem dX6_nextLot_29 : decode cX6_nextLot 29 = .ok (.iload_n 1, 1) := by decide +kernel
theorem dX6_nextLot_30 : decode cX6_nextLot 30 = .ok (.iconst (-1), 1) := by decide +kernel
theorem dX6_nextLot_31 : decode cX6_nextLot 31 = .ok (.if_icmp .eq 18, 3) := by decide +kernel
theorem dX6_nextLot_34 : decode cX6_nextLot 34 = .ok (.aload_n 0, 1) := by decide +kernel
theorem dX6_nextLot_35 : decode cX6_nextLot 35 = .ok (.getfield 33, 3) := by decide +kernel
theorem dX6_nextLot_38 : decode cX6_nextLot 38 = .ok (.iload_n 2, 1) := by decide +kernel
theorem dX6_nextLot_39 : decode cX6_nextLot 39 = .ok (.iaload, 1) := by decide +kernel
theorem dX6_nextLot_40 : decode cX6_nextLot 40 = .ok (.aload_n 0, 1) := by decide +kernel
theorem dX6_nextLot_41 : decode cX6_nextLot 41 = .ok (.getfield 33, 3) := by decide +kernel
theorem dX6_nextLot_44 : decode cX6_nextLot 44 = .ok (.iload_n 1, 1) := by decide +kernel
theorem dX6_nextLot_45 : decode cX6_nextLot 45 = .ok (.iaload, 1) := by decide +kernel
theorem dX6_nextLot_46 : decode cX6_nextLot 46 = .ok (.if_icmp .ge 7, 3) := by decide +kernel
theorem dX6_nextLot_49 : decode cX6_nextLot 49 = .ok (.iconst 1, 1) := by decide +kernel
theorem dX6_nextLot_50 : decode cX6_nextLot 50 = .ok (.goto 4, 3) := by decide +kernel
theorem dX6_nextLot_53 : decode cX6_nextLot 53 = .ok (.iconst 0, 1) := by decide +kernel
theorem dX6_nextLot_54 : decode cX6_nextLot 54 = .ok (.istore_n 3, 1) := by decide +kernel
theorem dX6_nextLot_55 : decode cX6_nextLot 55 = .ok (.iload_n 3, 1) := by decide +kernel
theorem dX6_nextLot_56 : decode cX6_nextLot 56 = .ok (.ifCond .eq 7, 3) := by decide +kernel
theorem dX6_nextLot_59 : decode cX6_nextLot 59 = .ok (.iload_n 2, 1) := by decide +kernel
theorem dX6_nextLot_60 : decode cX6_nextLot 60 = .ok (.goto 4, 3) := by decide +kernel
theorem dX6_nextLot_63 : decode cX6_nextLot 63 = .ok (.iload_n 1, 1) := by decide +kernel
theorem dX6_nextLot_64 : decode cX6_nextLot 64 = .ok (.istore_n 1, 1) := by decide +kernel
theorem dX6_nextLot_65 : decode cX6_nextLot 65 = .ok (.iinc 2 1, 3) := by decide +kernel
theorem dX6_nextLot_68 : decode cX6_nextLot 68 = .ok (.goto (-64), 3) := by decide +kernel
theorem dX6_nextLot_71 : decode cX6_nextLot 71 = .ok (.iload_n 1, 1) := by decide +kernel
theorem dX6_nextLot_72 : decode cX6_nextLot 72 = .ok (.ireturn, 1) := by decide +kernel
set_option maxRecDepth 20000 in
theorem ggX6_eats_X6_allNeed : GoodIn wsX6_eats wsX6_allNeed := goodIn_r _ [6, 7, 41, 42, 43, 44, 45, 46, 47, 48, 49, 50, 51, 52, 53, 54, 55, 56, 57, 58, 59, 60, 61, 62] (by decide +kernel) (by decide +kernel)
set_option maxRecDepth 20000 in
theorem gX6_eats_X6_allNeed : GoodIn wsX6_eats (wsV RX6 114 RX6 yX6_allNeed wsX6_allNeed) := goodIn_app (goodIn_of _ (by decide +kernel)) ggX6_eats_X6_allNeed
set_option maxRecDepth 20000 in
theorem ggX6_eats_X6_allFood : GoodIn wsX6_eats wsX6_allFood := goodIn_r _ [11, 12, 1, 13, 14, 15, 5, 16, 17, 18, 41, 42, 43, 44, 45, 46, 47, 48, 49, 50, 51, 52, 53, 54, 55, 56, 57, 58, 59, 60, 61, 62] (by decide +kernel) (by decide +kernel)
set_option maxRecDepth 20000 in
theorem gX6_eats_X6_allFood : GoodIn wsX6_eats (wsV RX6 118 RX6 yX6_allFood wsX6_allFood) := goodIn_app (goodIn_of _ (by decide +kernel)) ggX6_eats_X6_allFood
set_option maxRecDepth 20000 in
theorem ggX6_eats_X6_shares : GoodIn wsX6_eats wsX6_shares := goodIn_r _ [22, 23, 7, 24, 25, 41, 42, 43, 44, 45, 46, 47, 48, 49, 50, 51, 52, 53, 54, 55, 56, 57, 58, 59, 60, 61, 62] (by decide +kernel) (by decide +kernel)
set_option maxRecDepth 20000 in
theorem gX6_eats_X6_shares : GoodIn wsX6_eats (wsV RX6 121 RX6 yX6_shares wsX6_shares) := goodIn_app (goodIn_of _ (by decide +kernel)) ggX6_eats_X6_shares
set_option maxRecDepth 20000 in
theorem ggX6_eats_X6_nextLot : GoodIn wsX6_eats wsX6_nextLot := goodIn_r _ [29, 12, 1, 30, 13, 14, 15, 5, 16, 17, 18, 41, 42, 43, 44, 45, 46, 47, 48, 49, 50, 51, 52, 53, 54, 55, 56, 57, 58, 59, 60, 61, 62] (by decide +kernel) (by decide +kernel)
set_option maxRecDepth 20000 in
theorem gX6_eats_X6_nextLot : GoodIn wsX6_eats (wsV RX6 125 RX6 yX6_nextLot wsX6_nextLot) := goodIn_app (goodIn_of _ (by decide +kernel)) ggX6_eats_X6_nextLot
set_option maxRecDepth 20000 in
theorem ggX6_eats_X6_changes : GoodIn wsX6_eats wsX6_changes := goodIn_r _ [34, 1, 35, 36, 37, 38, 39, 40, 41, 42, 43, 44, 45, 46, 47, 48, 49, 50, 51, 52, 53, 54, 55, 56, 57, 58, 59, 60, 61, 62] (by decide +kernel) (by decide +kernel)
set_option maxRecDepth 20000 in
theorem gX6_eats_X6_changes : GoodIn wsX6_eats (wsV RX6 104 RX6 yX6_changes wsX6_changes) := goodIn_app (goodIn_of _ (by decide +kernel)) ggX6_eats_X6_changes
theorem dX6_eats_0 : decode cX6_eats 0 = .ok (.aload_n 0, 1) := by decide +kernel
theorem dX6_eats_1 : decode cX6_eats 1 = .ok (.invokevirtual 114, 3) := by decide +kernel
theorem dX6_eats_4 : decode cX6_eats 4 = .ok (.istore_n 1, 1) := by decide +kernel
theorem dX6_eats_5 : decode cX6_eats 5 = .ok (.aload_n 0, 1) := by decide +kernel
theorem dX6_eats_6 : decode cX6_eats 6 = .ok (.invokevirtual 118, 3) := by decide +kernel
theorem dX6_eats_9 : decode cX6_eats 9 = .ok (.istore_n 2, 1) := by decide +kernel
theorem dX6_eats_10 : decode cX6_eats 10 = .ok (.iload_n 1, 1) := by decide +kernel
theorem dX6_eats_11 : decode cX6_eats 11 = .ok (.iload_n 2, 1) := by decide +kernel
theorem dX6_eats_12 : decode cX6_eats 12 = .ok (.if_icmp .ge 7, 3) := by decide +kernel
theorem dX6_eats_15 : decode cX6_eats 15 = .ok (.iload_n 1, 1) := by decide +kernel
theorem dX6_eats_16 : decode cX6_eats 16 = .ok (.goto 4, 3) := by decide +kernel
theorem dX6_eats_19 : decode cX6_eats 19 = .ok (.iload_n 2, 1) := by decide +kernel
theorem dX6_eats_20 : decode cX6_eats 20 = .ok (.istore_n 3, 1) := by decide +kernel
theorem dX6_eats_21 : decode cX6_eats 21 = .ok (.aload_n 0, 1) := by decide +kernel
theorem dX6_eats_22 : decode cX6_eats 22 = .ok (.iload_n 1, 1) := by decide +kernel
theorem dX6_eats_23 : decode cX6_eats 23 = .ok (.iload_n 3, 1) := by decide +kernel
theorem dX6_eats_24 : decode cX6_eats 24 = .ok (.invokevirtual 121, 3) := by decide +kernel
theorem dX6_eats_27 : decode cX6_eats 27 = .ok (.iload_n 3, 1) := by decide +kernel
theorem dX6_eats_28 : decode cX6_eats 28 = .ok (.istore 4, 2) := by decide +kernel
theorem dX6_eats_30 : decode cX6_eats 30 = .ok (.iload 4, 2) := by decide +kernel
theorem dX6_eats_32 : decode cX6_eats 32 = .ok (.ifCond .le 55, 3) := by decide +kernel
theorem dX6_eats_35 : decode cX6_eats 35 = .ok (.aload_n 0, 1) := by decide +kernel
theorem dX6_eats_36 : decode cX6_eats 36 = .ok (.invokevirtual 125, 3) := by decide +kernel
theorem dX6_eats_39 : decode cX6_eats 39 = .ok (.istore 5, 2) := by decide +kernel
theorem dX6_eats_41 : decode cX6_eats 41 = .ok (.aload_n 0, 1) := by decide +kernel
theorem dX6_eats_42 : decode cX6_eats 42 = .ok (.getfield 30, 3) := by decide +kernel
theorem dX6_eats_45 : decode cX6_eats 45 = .ok (.iload 5, 2) := by decide +kernel
theorem dX6_eats_47 : decode cX6_eats 47 = .ok (.iaload, 1) := by decide +kernel
theorem dX6_eats_48 : decode cX6_eats 48 = .ok (.iload 4, 2) := by decide +kernel
theorem dX6_eats_50 : decode cX6_eats 50 = .ok (.if_icmp .ge 13, 3) := by decide +kernel
theorem dX6_eats_53 : decode cX6_eats 53 = .ok (.aload_n 0, 1) := by decide +kernel
theorem dX6_eats_54 : decode cX6_eats 54 = .ok (.getfield 30, 3) := by decide +kernel
theorem dX6_eats_57 : decode cX6_eats 57 = .ok (.iload 5, 2) := by decide +kernel
theorem dX6_eats_59 : decode cX6_eats 59 = .ok (.iaload, 1) := by decide +kernel
theorem dX6_eats_60 : decode cX6_eats 60 = .ok (.goto 5, 3) := by decide +kernel
theorem dX6_eats_63 : decode cX6_eats 63 = .ok (.iload 4, 2) := by decide +kernel
theorem dX6_eats_65 : decode cX6_eats 65 = .ok (.istore 6, 2) := by decide +kernel
theorem dX6_eats_67 : decode cX6_eats 67 = .ok (.aload_n 0, 1) := by decide +kernel
theorem dX6_eats_68 : decode cX6_eats 68 = .ok (.iload 5, 2) := by decide +kernel
theorem dX6_eats_70 : decode cX6_eats 70 = .ok (.iload 6, 2) := by decide +kernel
theorem dX6_eats_72 : decode cX6_eats 72 = .ok (.ineg, 1) := by decide +kernel
theorem dX6_eats_73 : decode cX6_eats 73 = .ok (.iconst 3, 1) := by decide +kernel
theorem dX6_eats_74 : decode cX6_eats 74 = .ok (.invokevirtual 104, 3) := by decide +kernel
theorem dX6_eats_77 : decode cX6_eats 77 = .ok (.iload 4, 2) := by decide +kernel
theorem dX6_eats_79 : decode cX6_eats 79 = .ok (.iload 6, 2) := by decide +kernel
theorem dX6_eats_81 : decode cX6_eats 81 = .ok (.isub, 1) := by decide +kernel
theorem dX6_eats_82 : decode cX6_eats 82 = .ok (.istore 4, 2) := by decide +kernel
theorem dX6_eats_84 : decode cX6_eats 84 = .ok (.goto (-54), 3) := by decide +kernel
theorem dX6_eats_87 : decode cX6_eats 87 = .ok (.iload_n 3, 1) := by decide +kernel
theorem dX6_eats_88 : decode cX6_eats 88 = .ok (.ireturn, 1) := by decide +kernel
set_option maxRecDepth 20000 in
theorem ggX6_passes_X6_changes : GoodIn wsX6_passes wsX6_changes := goodIn_r _ [12, 4, 13, 14, 15, 16, 17, 18, 56, 57, 58, 59, 60, 61, 62, 63, 64, 65, 66, 67, 68, 69, 70, 71, 72, 73, 74, 75, 76, 77] (by decide +kernel) (by decide +kernel)
set_option maxRecDepth 20000 in
theorem gX6_passes_X6_changes : GoodIn wsX6_passes (wsV RX6 104 RX6 yX6_changes wsX6_changes) := goodIn_app (goodIn_of _ (by decide +kernel)) ggX6_passes_X6_changes
set_option maxRecDepth 20000 in
theorem ggX6_passes_X6_isFrost : GoodIn wsX6_passes wsX6_isFrost := goodIn_r _ [22, 23, 3, 24, 25, 26, 11, 27, 56, 57, 58, 59, 60, 61, 62, 63, 64, 65, 66, 67, 68, 69, 70, 71, 72, 73, 74, 75, 76, 77] (by decide +kernel) (by decide +kernel)
set_option maxRecDepth 20000 in
theorem gX6_passes_X6_isFrost : GoodIn wsX6_passes (wsV RX6 87 RX6 yX6_isFrost wsX6_isFrost) := goodIn_app (goodIn_of _ (by decide +kernel)) ggX6_passes_X6_isFrost
set_option maxRecDepth 20000 in
theorem ggX6_passes_X6_eats : GoodIn wsX6_passes wsX6_eats := goodIn_r _ [31, 4, 32, 33, 34, 11, 35, 36, 37, 38, 39, 40, 1, 41, 42, 43, 44, 7, 5, 45, 46, 47, 48, 49, 50, 51, 52, 53, 54, 55, 2, 8, 9, 10, 12, 13, 14, 15, 16, 17, 18, 56, 57, 58, 59, 60, 61, 62, 63, 64, 65, 66, 67, 68, 69, 70, 71, 72, 73, 74, 75, 76, 77] (by decide +kernel) (by decide +kernel)
set_option maxRecDepth 20000 in
theorem gX6_passes_X6_eats : GoodIn wsX6_passes (wsV RX6 128 RX6 yX6_eats wsX6_eats) := goodIn_app (goodIn_of _ (by decide +kernel)) ggX6_passes_X6_eats
theorem dX6_passes_0 : decode cX6_passes 0 = .ok (.iconst 0, 1) := by decide +kernel
theorem dX6_passes_1 : decode cX6_passes 1 = .ok (.istore_n 1, 1) := by decide +kernel
theorem dX6_passes_2 : decode cX6_passes 2 = .ok (.iload_n 1, 1) := by decide +kernel
theorem dX6_passes_3 : decode cX6_passes 3 = .ok (.aload_n 0, 1) := by decide +kernel
theorem dX6_passes_4 : decode cX6_passes 4 = .ok (.getfield 67, 3) := by decide +kernel
theorem dX6_passes_7 : decode cX6_passes 7 = .ok (.if_icmp .ge 39, 3) := by decide +kernel
theorem dX6_passes_10 : decode cX6_passes 10 = .ok (.aload_n 0, 1) := by decide +kernel
theorem dX6_passes_11 : decode cX6_passes 11 = .ok (.iload_n 1, 1) := by decide +kernel
theorem dX6_passes_12 : decode cX6_passes 12 = .ok (.aload_n 0, 1) := by decide +kernel
theorem dX6_passes_13 : decode cX6_passes 13 = .ok (.getfield 33, 3) := by decide +kernel
theorem dX6_passes_16 : decode cX6_passes 16 = .ok (.iload_n 1, 1) := by decide +kernel
theorem dX6_passes_17 : decode cX6_passes 17 = .ok (.iaload, 1) := by decide +kernel
theorem dX6_passes_18 : decode cX6_passes 18 = .ok (.aload_n 0, 1) := by decide +kernel
theorem dX6_passes_19 : decode cX6_passes 19 = .ok (.getfield 70, 3) := by decide +kernel
theorem dX6_passes_22 : decode cX6_passes 22 = .ok (.if_icmp .ge 13, 3) := by decide +kernel
theorem dX6_passes_25 : decode cX6_passes 25 = .ok (.aload_n 0, 1) := by decide +kernel
theorem dX6_passes_26 : decode cX6_passes 26 = .ok (.getfield 30, 3) := by decide +kernel
theorem dX6_passes_29 : decode cX6_passes 29 = .ok (.iload_n 1, 1) := by decide +kernel
theorem dX6_passes_30 : decode cX6_passes 30 = .ok (.iaload, 1) := by decide +kernel
theorem dX6_passes_31 : decode cX6_passes 31 = .ok (.ineg, 1) := by decide +kernel
theorem dX6_passes_32 : decode cX6_passes 32 = .ok (.goto 4, 3) := by decide +kernel
theorem dX6_passes_35 : decode cX6_passes 35 = .ok (.iconst 0, 1) := by decide +kernel
theorem dX6_passes_36 : decode cX6_passes 36 = .ok (.iconst 4, 1) := by decide +kernel
theorem dX6_passes_37 : decode cX6_passes 37 = .ok (.invokevirtual 104, 3) := by decide +kernel
theorem dX6_passes_40 : decode cX6_passes 40 = .ok (.iinc 1 1, 3) := by decide +kernel
theorem dX6_passes_43 : decode cX6_passes 43 = .ok (.goto (-41), 3) := by decide +kernel
theorem dX6_passes_46 : decode cX6_passes 46 = .ok (.iconst 0, 1) := by decide +kernel
theorem dX6_passes_47 : decode cX6_passes 47 = .ok (.istore_n 1, 1) := by decide +kernel
theorem dX6_passes_48 : decode cX6_passes 48 = .ok (.iload_n 1, 1) := by decide +kernel
theorem dX6_passes_49 : decode cX6_passes 49 = .ok (.aload_n 0, 1) := by decide +kernel
theorem dX6_passes_50 : decode cX6_passes 50 = .ok (.getfield 67, 3) := by decide +kernel
theorem dX6_passes_53 : decode cX6_passes 53 = .ok (.if_icmp .ge 73, 3) := by decide +kernel
theorem dX6_passes_56 : decode cX6_passes 56 = .ok (.aload_n 0, 1) := by decide +kernel
theorem dX6_passes_57 : decode cX6_passes 57 = .ok (.invokevirtual 87, 3) := by decide +kernel
theorem dX6_passes_60 : decode cX6_passes 60 = .ok (.ifCond .eq 66, 3) := by decide +kernel
theorem dX6_passes_63 : decode cX6_passes 63 = .ok (.aload_n 0, 1) := by decide +kernel
theorem dX6_passes_64 : decode cX6_passes 64 = .ok (.getfield 27, 3) := by decide +kernel
theorem dX6_passes_67 : decode cX6_passes 67 = .ok (.iload_n 1, 1) := by decide +kernel
theorem dX6_passes_68 : decode cX6_passes 68 = .ok (.iaload, 1) := by decide +kernel
theorem dX6_passes_69 : decode cX6_passes 69 = .ok (.iconst 2, 1) := by decide +kernel
theorem dX6_passes_70 : decode cX6_passes 70 = .ok (.if_icmp .ge 21, 3) := by decide +kernel
theorem dX6_passes_73 : decode cX6_passes 73 = .ok (.aload_n 0, 1) := by decide +kernel
theorem dX6_passes_74 : decode cX6_passes 74 = .ok (.getfield 7, 3) := by decide +kernel
theorem dX6_passes_77 : decode cX6_passes 77 = .ok (.aload_n 0, 1) := by decide +kernel
theorem dX6_passes_78 : decode cX6_passes 78 = .ok (.getfield 24, 3) := by decide +kernel
theorem dX6_passes_81 : decode cX6_passes 81 = .ok (.iload_n 1, 1) := by decide +kernel
theorem dX6_passes_82 : decode cX6_passes 82 = .ok (.iaload, 1) := by decide +kernel
theorem dX6_passes_83 : decode cX6_passes 83 = .ok (.baload, 1) := by decide +kernel
theorem dX6_passes_84 : decode cX6_passes 84 = .ok (.ifCond .ne 7, 3) := by decide +kernel
theorem dX6_passes_87 : decode cX6_passes 87 = .ok (.iconst 1, 1) := by decide +kernel
theorem dX6_passes_88 : decode cX6_passes 88 = .ok (.goto 4, 3) := by decide +kernel
theorem dX6_passes_91 : decode cX6_passes 91 = .ok (.iconst 0, 1) := by decide +kernel
theorem dX6_passes_92 : decode cX6_passes 92 = .ok (.istore_n 2, 1) := by decide +kernel
theorem dX6_passes_93 : decode cX6_passes 93 = .ok (.aload_n 0, 1) := by decide +kernel
theorem dX6_passes_94 : decode cX6_passes 94 = .ok (.iload_n 1, 1) := by decide +kernel
theorem dX6_passes_95 : decode cX6_passes 95 = .ok (.iload_n 2, 1) := by decide +kernel
theorem dX6_passes_96 : decode cX6_passes 96 = .ok (.ifCond .eq 19, 3) := by decide +kernel
theorem dX6_passes_99 : decode cX6_passes 99 = .ok (.aload_n 0, 1) := by decide +kernel
theorem dX6_passes_100 : decode cX6_passes 100 = .ok (.getfield 30, 3) := by decide +kernel
theorem dX6_passes_103 : decode cX6_passes 103 = .ok (.iload_n 1, 1) := by decide +kernel
theorem dX6_passes_104 : decode cX6_passes 104 = .ok (.iaload, 1) := by decide +kernel
theorem dX6_passes_105 : decode cX6_passes 105 = .ok (.bipush 9, 2) := by decide +kernel
theorem dX6_passes_107 : decode cX6_passes 107 = .ok (.iadd, 1) := by decide +kernel
theorem dX6_passes_108 : decode cX6_passes 108 = .ok (.bipush 10, 2) := by decide +kernel
theorem dX6_passes_110 : decode cX6_passes 110 = .ok (.idiv, 1) := by decide +kernel
theorem dX6_passes_111 : decode cX6_passes 111 = .ok (.ineg, 1) := by decide +kernel
theorem dX6_passes_112 : decode cX6_passes 112 = .ok (.goto 4, 3) := by decide +kernel
theorem dX6_passes_115 : decode cX6_passes 115 = .ok (.iconst 0, 1) := by decide +kernel
theorem dX6_passes_116 : decode cX6_passes 116 = .ok (.iconst 2, 1) := by decide +kernel
theorem dX6_passes_117 : decode cX6_passes 117 = .ok (.invokevirtual 104, 3) := by decide +kernel
theorem dX6_passes_120 : decode cX6_passes 120 = .ok (.iinc 1 1, 3) := by decide +kernel
theorem dX6_passes_123 : decode cX6_passes 123 = .ok (.goto (-75), 3) := by decide +kernel
theorem dX6_passes_126 : decode cX6_passes 126 = .ok (.aload_n 0, 1) := by decide +kernel
theorem dX6_passes_127 : decode cX6_passes 127 = .ok (.invokevirtual 128, 3) := by decide +kernel
theorem dX6_passes_130 : decode cX6_passes 130 = .ok (.istore_n 1, 1) := by decide +kernel
theorem dX6_passes_131 : decode cX6_passes 131 = .ok (.aload_n 0, 1) := by decide +kernel
theorem dX6_passes_132 : decode cX6_passes 132 = .ok (.dup, 1) := by decide +kernel
theorem dX6_passes_133 : decode cX6_passes 133 = .ok (.getfield 70, 3) := by decide +kernel
theorem dX6_passes_136 : decode cX6_passes 136 = .ok (.iconst 1, 1) := by decide +kernel
theorem dX6_passes_137 : decode cX6_passes 137 = .ok (.iadd, 1) := by decide +kernel
theorem dX6_passes_138 : decode cX6_passes 138 = .ok (.putfield 70, 3) := by decide +kernel
theorem dX6_passes_141 : decode cX6_passes 141 = .ok (.iload_n 1, 1) := by decide +kernel
theorem dX6_passes_142 : decode cX6_passes 142 = .ok (.ireturn, 1) := by decide +kernel
set_option maxRecDepth 20000 in
theorem ggX6_pass_X6_in : GoodIn wsX6_pass wsX6_in := goodIn_r _ [6] (by decide +kernel) (by decide +kernel)
set_option maxRecDepth 20000 in
theorem gX6_pass_X6_in : GoodIn wsX6_pass (va_wsS RX6 63 yX6_in wsX6_in) := goodIn_app (goodIn_of _ (by decide +kernel)) ggX6_pass_X6_in
set_option maxRecDepth 20000 in
theorem ggX6_pass_X6_passes : GoodIn wsX6_pass wsX6_passes := goodIn_r _ [10, 11, 12, 1, 13, 14, 15, 16, 17, 18, 19, 5, 20, 21, 22, 23, 24, 25, 26, 27, 28, 29, 30, 31, 32, 3, 4, 6, 33, 34, 35, 36, 37, 38, 39, 40, 41, 42, 43, 44, 45, 46, 47, 48, 49, 50, 51, 52, 53, 54, 55, 56, 57, 58, 59, 60, 61, 62, 63, 64, 65, 66, 67, 68, 69, 70, 71, 72, 73, 74, 75, 76, 77, 78, 79, 80, 81, 82] (by decide +kernel) (by decide +kernel)
set_option maxRecDepth 20000 in
theorem gX6_pass_X6_passes : GoodIn wsX6_pass (wsV RX6 131 RX6 yX6_passes wsX6_passes) := goodIn_app (goodIn_of _ (by decide +kernel)) ggX6_pass_X6_passes
theorem dX6_pass_0 : decode cX6_pass 0 = .ok (.aload_n 0, 1) := by decide +kernel
theorem dX6_pass_1 : decode cX6_pass 1 = .ok (.iload_n 1, 1) := by decide +kernel
theorem dX6_pass_2 : decode cX6_pass 2 = .ok (.iconst 1, 1) := by decide +kernel
theorem dX6_pass_3 : decode cX6_pass 3 = .ok (.bipush 60, 2) := by decide +kernel
theorem dX6_pass_5 : decode cX6_pass 5 = .ok (.invokestatic 63, 3) := by decide +kernel
theorem dX6_pass_8 : decode cX6_pass 8 = .ok (.ifCond .ne 7, 3) := by decide +kernel
theorem dX6_pass_11 : decode cX6_pass 11 = .ok (.iconst 1, 1) := by decide +kernel
theorem dX6_pass_12 : decode cX6_pass 12 = .ok (.goto 20, 3) := by decide +kernel
theorem dX6_pass_15 : decode cX6_pass 15 = .ok (.aload_n 0, 1) := by decide +kernel
theorem dX6_pass_16 : decode cX6_pass 16 = .ok (.getfield 70, 3) := by decide +kernel
theorem dX6_pass_19 : decode cX6_pass 19 = .ok (.iload_n 1, 1) := by decide +kernel
theorem dX6_pass_20 : decode cX6_pass 20 = .ok (.iadd, 1) := by decide +kernel
theorem dX6_pass_21 : decode cX6_pass 21 = .ok (.sipush 1500, 3) := by decide +kernel
theorem dX6_pass_24 : decode cX6_pass 24 = .ok (.if_icmp .le 7, 3) := by decide +kernel
theorem dX6_pass_27 : decode cX6_pass 27 = .ok (.iconst 2, 1) := by decide +kernel
theorem dX6_pass_28 : decode cX6_pass 28 = .ok (.goto 4, 3) := by decide +kernel
theorem dX6_pass_31 : decode cX6_pass 31 = .ok (.iconst 0, 1) := by decide +kernel
theorem dX6_pass_32 : decode cX6_pass 32 = .ok (.putfield 60, 3) := by decide +kernel
theorem dX6_pass_35 : decode cX6_pass 35 = .ok (.iconst 0, 1) := by decide +kernel
theorem dX6_pass_36 : decode cX6_pass 36 = .ok (.istore_n 2, 1) := by decide +kernel
theorem dX6_pass_37 : decode cX6_pass 37 = .ok (.iconst 0, 1) := by decide +kernel
theorem dX6_pass_38 : decode cX6_pass 38 = .ok (.istore_n 3, 1) := by decide +kernel
theorem dX6_pass_39 : decode cX6_pass 39 = .ok (.iload_n 3, 1) := by decide +kernel
theorem dX6_pass_40 : decode cX6_pass 40 = .ok (.iload_n 1, 1) := by decide +kernel
theorem dX6_pass_41 : decode cX6_pass 41 = .ok (.if_icmp .ge 23, 3) := by decide +kernel
theorem dX6_pass_44 : decode cX6_pass 44 = .ok (.aload_n 0, 1) := by decide +kernel
theorem dX6_pass_45 : decode cX6_pass 45 = .ok (.getfield 60, 3) := by decide +kernel
theorem dX6_pass_48 : decode cX6_pass 48 = .ok (.ifCond .ne 16, 3) := by decide +kernel
theorem dX6_pass_51 : decode cX6_pass 51 = .ok (.iload_n 2, 1) := by decide +kernel
theorem dX6_pass_52 : decode cX6_pass 52 = .ok (.aload_n 0, 1) := by decide +kernel
theorem dX6_pass_53 : decode cX6_pass 53 = .ok (.invokevirtual 131, 3) := by decide +kernel
theorem dX6_pass_56 : decode cX6_pass 56 = .ok (.iadd, 1) := by decide +kernel
theorem dX6_pass_57 : decode cX6_pass 57 = .ok (.istore_n 2, 1) := by decide +kernel
theorem dX6_pass_58 : decode cX6_pass 58 = .ok (.iinc 3 1, 3) := by decide +kernel
theorem dX6_pass_61 : decode cX6_pass 61 = .ok (.goto (-22), 3) := by decide +kernel
theorem dX6_pass_64 : decode cX6_pass 64 = .ok (.iload_n 2, 1) := by decide +kernel
theorem dX6_pass_65 : decode cX6_pass 65 = .ok (.ireturn, 1) := by decide +kernel
theorem dX6_nextCrew_0 : decode cX6_nextCrew 0 = .ok (.aload_n 0, 1) := by decide +kernel
theorem dX6_nextCrew_1 : decode cX6_nextCrew 1 = .ok (.aload_n 0, 1) := by decide +kernel
theorem dX6_nextCrew_2 : decode cX6_nextCrew 2 = .ok (.getfield 94, 3) := by decide +kernel
theorem dX6_nextCrew_5 : decode cX6_nextCrew 5 = .ok (.bipush 19, 2) := by decide +kernel
theorem dX6_nextCrew_7 : decode cX6_nextCrew 7 = .ok (.if_icmp .ne 7, 3) := by decide +kernel
theorem dX6_nextCrew_10 : decode cX6_nextCrew 10 = .ok (.iconst 1, 1) := by decide +kernel
theorem dX6_nextCrew_11 : decode cX6_nextCrew 11 = .ok (.goto 4, 3) := by decide +kernel
theorem dX6_nextCrew_14 : decode cX6_nextCrew 14 = .ok (.iconst 0, 1) := by decide +kernel
theorem dX6_nextCrew_15 : decode cX6_nextCrew 15 = .ok (.putfield 60, 3) := by decide +kernel
theorem dX6_nextCrew_18 : decode cX6_nextCrew 18 = .ok (.aload_n 0, 1) := by decide +kernel
theorem dX6_nextCrew_19 : decode cX6_nextCrew 19 = .ok (.getfield 60, 3) := by decide +kernel
theorem dX6_nextCrew_22 : decode cX6_nextCrew 22 = .ok (.ifCond .le 5, 3) := by decide +kernel
theorem dX6_nextCrew_25 : decode cX6_nextCrew 25 = .ok (.iconst 0, 1) := by decide +kernel
theorem dX6_nextCrew_26 : decode cX6_nextCrew 26 = .ok (.ireturn, 1) := by decide +kernel
theorem dX6_nextCrew_27 : decode cX6_nextCrew 27 = .ok (.aload_n 0, 1) := by decide +kernel
theorem dX6_nextCrew_28 : decode cX6_nextCrew 28 = .ok (.dup, 1) := by decide +kernel
theorem dX6_nextCrew_29 : decode cX6_nextCrew 29 = .ok (.getfield 94, 3) := by decide +kernel
theorem dX6_nextCrew_32 : decode cX6_nextCrew 32 = .ok (.iconst 1, 1) := by decide +kernel
theorem dX6_nextCrew_33 : decode cX6_nextCrew 33 = .ok (.iadd, 1) := by decide +kernel
theorem dX6_nextCrew_34 : decode cX6_nextCrew 34 = .ok (.putfield 94, 3) := by decide +kernel
theorem dX6_nextCrew_37 : decode cX6_nextCrew 37 = .ok (.aload_n 0, 1) := by decide +kernel
theorem dX6_nextCrew_38 : decode cX6_nextCrew 38 = .ok (.getfield 94, 3) := by decide +kernel
theorem dX6_nextCrew_41 : decode cX6_nextCrew 41 = .ok (.ireturn, 1) := by decide +kernel
theorem dX6_today_0 : decode cX6_today 0 = .ok (.aload_n 0, 1) := by decide +kernel
theorem dX6_today_1 : decode cX6_today 1 = .ok (.iconst 0, 1) := by decide +kernel
theorem dX6_today_2 : decode cX6_today 2 = .ok (.putfield 60, 3) := by decide +kernel
theorem dX6_today_5 : decode cX6_today 5 = .ok (.aload_n 0, 1) := by decide +kernel
theorem dX6_today_6 : decode cX6_today 6 = .ok (.getfield 70, 3) := by decide +kernel
theorem dX6_today_9 : decode cX6_today 9 = .ok (.ireturn, 1) := by decide +kernel
set_option maxRecDepth 20000 in
theorem ggX6_hunger_X6_in : GoodIn wsX6_hunger wsX6_in := goodIn_r _ [6] (by decide +kernel) (by decide +kernel)
set_option maxRecDepth 20000 in
theorem gX6_hunger_X6_in : GoodIn wsX6_hunger (va_wsS RX6 63 yX6_in wsX6_in) := goodIn_app (goodIn_of _ (by decide +kernel)) ggX6_hunger_X6_in
theorem dX6_hunger_0 : decode cX6_hunger 0 = .ok (.aload_n 0, 1) := by decide +kernel
theorem dX6_hunger_1 : decode cX6_hunger 1 = .ok (.iload_n 1, 1) := by decide +kernel
theorem dX6_hunger_2 : decode cX6_hunger 2 = .ok (.iconst 0, 1) := by decide +kernel
theorem dX6_hunger_3 : decode cX6_hunger 3 = .ok (.iconst 2, 1) := by decide +kernel
theorem dX6_hunger_4 : decode cX6_hunger 4 = .ok (.invokestatic 63, 3) := by decide +kernel
theorem dX6_hunger_7 : decode cX6_hunger 7 = .ok (.ifCond .eq 7, 3) := by decide +kernel
theorem dX6_hunger_10 : decode cX6_hunger 10 = .ok (.iconst 0, 1) := by decide +kernel
theorem dX6_hunger_11 : decode cX6_hunger 11 = .ok (.goto 4, 3) := by decide +kernel
theorem dX6_hunger_14 : decode cX6_hunger 14 = .ok (.iconst 1, 1) := by decide +kernel
theorem dX6_hunger_15 : decode cX6_hunger 15 = .ok (.putfield 60, 3) := by decide +kernel
theorem dX6_hunger_18 : decode cX6_hunger 18 = .ok (.aload_n 0, 1) := by decide +kernel
theorem dX6_hunger_19 : decode cX6_hunger 19 = .ok (.getfield 60, 3) := by decide +kernel
theorem dX6_hunger_22 : decode cX6_hunger 22 = .ok (.ifCond .le 7, 3) := by decide +kernel
theorem dX6_hunger_25 : decode cX6_hunger 25 = .ok (.iconst 0, 1) := by decide +kernel
theorem dX6_hunger_26 : decode cX6_hunger 26 = .ok (.goto 9, 3) := by decide +kernel
theorem dX6_hunger_29 : decode cX6_hunger 29 = .ok (.aload_n 0, 1) := by decide +kernel
theorem dX6_hunger_30 : decode cX6_hunger 30 = .ok (.getfield 39, 3) := by decide +kernel
theorem dX6_hunger_33 : decode cX6_hunger 33 = .ok (.iload_n 1, 1) := by decide +kernel
theorem dX6_hunger_34 : decode cX6_hunger 34 = .ok (.iaload, 1) := by decide +kernel
theorem dX6_hunger_35 : decode cX6_hunger 35 = .ok (.ireturn, 1) := by decide +kernel
theorem dX6_lots_0 : decode cX6_lots 0 = .ok (.aload_n 0, 1) := by decide +kernel
theorem dX6_lots_1 : decode cX6_lots 1 = .ok (.iconst 0, 1) := by decide +kernel
theorem dX6_lots_2 : decode cX6_lots 2 = .ok (.putfield 60, 3) := by decide +kernel
theorem dX6_lots_5 : decode cX6_lots 5 = .ok (.aload_n 0, 1) := by decide +kernel
theorem dX6_lots_6 : decode cX6_lots 6 = .ok (.getfield 67, 3) := by decide +kernel
theorem dX6_lots_9 : decode cX6_lots 9 = .ok (.ireturn, 1) := by decide +kernel
set_option maxRecDepth 20000 in
theorem ggX6_asks_X6_isLot : GoodIn wsX6_asks wsX6_isLot := goodIn_r _ [6, 7, 8, 9, 5, 10, 11, 12, 13, 14, 15, 16, 17, 18, 19, 20, 21, 22, 23, 24, 25, 26, 27, 28, 29, 30, 31, 32] (by decide +kernel) (by decide +kernel)
set_option maxRecDepth 20000 in
theorem gX6_asks_X6_isLot : GoodIn wsX6_asks (wsV RX6 108 RX6 yX6_isLot wsX6_isLot) := goodIn_app (goodIn_of _ (by decide +kernel)) ggX6_asks_X6_isLot
theorem dX6_asks_0 : decode cX6_asks 0 = .ok (.aload_n 0, 1) := by decide +kernel
theorem dX6_asks_1 : decode cX6_asks 1 = .ok (.aload_n 0, 1) := by decide +kernel
theorem dX6_asks_2 : decode cX6_asks 2 = .ok (.iload_n 1, 1) := by decide +kernel
theorem dX6_asks_3 : decode cX6_asks 3 = .ok (.invokevirtual 108, 3) := by decide +kernel
theorem dX6_asks_6 : decode cX6_asks 6 = .ok (.ifCond .eq 7, 3) := by decide +kernel
theorem dX6_asks_9 : decode cX6_asks 9 = .ok (.iconst 0, 1) := by decide +kernel
theorem dX6_asks_10 : decode cX6_asks 10 = .ok (.goto 4, 3) := by decide +kernel
theorem dX6_asks_13 : decode cX6_asks 13 = .ok (.iconst 1, 1) := by decide +kernel
theorem dX6_asks_14 : decode cX6_asks 14 = .ok (.putfield 60, 3) := by decide +kernel
theorem dX6_asks_17 : decode cX6_asks 17 = .ok (.aload_n 0, 1) := by decide +kernel
theorem dX6_asks_18 : decode cX6_asks 18 = .ok (.getfield 60, 3) := by decide +kernel
theorem dX6_asks_21 : decode cX6_asks 21 = .ok (.ifCond .ne 7, 3) := by decide +kernel
theorem dX6_asks_24 : decode cX6_asks 24 = .ok (.iconst 1, 1) := by decide +kernel
theorem dX6_asks_25 : decode cX6_asks 25 = .ok (.goto 4, 3) := by decide +kernel
theorem dX6_asks_28 : decode cX6_asks 28 = .ok (.iconst 0, 1) := by decide +kernel
theorem dX6_asks_29 : decode cX6_asks 29 = .ok (.ireturn, 1) := by decide +kernel
set_option maxRecDepth 20000 in
theorem ggX6_amount_X6_asks : GoodIn wsX6_amount wsX6_asks := goodIn_r _ [6, 7, 8, 9, 10, 5, 11, 12, 13, 14, 15, 16, 17, 18, 19, 20, 21, 22, 23, 24, 25, 26, 27, 28, 29, 30, 31, 32, 33, 34, 35, 36, 37] (by decide +kernel) (by decide +kernel)
set_option maxRecDepth 20000 in
theorem gX6_amount_X6_asks : GoodIn wsX6_amount (wsV RX6 134 RX6 yX6_asks wsX6_asks) := goodIn_app (goodIn_of _ (by decide +kernel)) ggX6_amount_X6_asks
theorem dX6_amount_0 : decode cX6_amount 0 = .ok (.aload_n 0, 1) := by decide +kernel
theorem dX6_amount_1 : decode cX6_amount 1 = .ok (.iload_n 1, 1) := by decide +kernel
theorem dX6_amount_2 : decode cX6_amount 2 = .ok (.invokevirtual 134, 3) := by decide +kernel
theorem dX6_amount_5 : decode cX6_amount 5 = .ok (.ifCond .eq 12, 3) := by decide +kernel
theorem dX6_amount_8 : decode cX6_amount 8 = .ok (.aload_n 0, 1) := by decide +kernel
theorem dX6_amount_9 : decode cX6_amount 9 = .ok (.getfield 30, 3) := by decide +kernel
theorem dX6_amount_12 : decode cX6_amount 12 = .ok (.iload_n 1, 1) := by decide +kernel
theorem dX6_amount_13 : decode cX6_amount 13 = .ok (.iaload, 1) := by decide +kernel
theorem dX6_amount_14 : decode cX6_amount 14 = .ok (.goto 4, 3) := by decide +kernel
theorem dX6_amount_17 : decode cX6_amount 17 = .ok (.iconst 0, 1) := by decide +kernel
theorem dX6_amount_18 : decode cX6_amount 18 = .ok (.ireturn, 1) := by decide +kernel
set_option maxRecDepth 20000 in
theorem ggX6_about_X6_asks : GoodIn wsX6_about wsX6_asks := goodIn_r _ [7, 8, 9, 10, 11, 6, 12, 13, 14, 15, 16, 17, 18, 19, 20, 21, 22, 23, 24, 25, 26, 27, 28, 29, 30, 31, 32, 33, 34, 35, 36, 37, 38] (by decide +kernel) (by decide +kernel)
set_option maxRecDepth 20000 in
theorem gX6_about_X6_asks : GoodIn wsX6_about (wsV RX6 134 RX6 yX6_asks wsX6_asks) := goodIn_app (goodIn_of _ (by decide +kernel)) ggX6_about_X6_asks
theorem dX6_about_0 : decode cX6_about 0 = .ok (.aload_n 0, 1) := by decide +kernel
theorem dX6_about_1 : decode cX6_about 1 = .ok (.iload_n 1, 1) := by decide +kernel
theorem dX6_about_2 : decode cX6_about 2 = .ok (.invokevirtual 134, 3) := by decide +kernel
theorem dX6_about_5 : decode cX6_about 5 = .ok (.ifCond .eq 22, 3) := by decide +kernel
theorem dX6_about_8 : decode cX6_about 8 = .ok (.bipush 10, 2) := by decide +kernel
theorem dX6_about_10 : decode cX6_about 10 = .ok (.aload_n 0, 1) := by decide +kernel
theorem dX6_about_11 : decode cX6_about 11 = .ok (.getfield 24, 3) := by decide +kernel
theorem dX6_about_14 : decode cX6_about 14 = .ok (.iload_n 1, 1) := by decide +kernel
theorem dX6_about_15 : decode cX6_about 15 = .ok (.iaload, 1) := by decide +kernel
theorem dX6_about_16 : decode cX6_about 16 = .ok (.imul, 1) := by decide +kernel
theorem dX6_about_17 : decode cX6_about 17 = .ok (.aload_n 0, 1) := by decide +kernel
theorem dX6_about_18 : decode cX6_about 18 = .ok (.getfield 27, 3) := by decide +kernel
theorem dX6_about_21 : decode cX6_about 21 = .ok (.iload_n 1, 1) := by decide +kernel
theorem dX6_about_22 : decode cX6_about 22 = .ok (.iaload, 1) := by decide +kernel
theorem dX6_about_23 : decode cX6_about 23 = .ok (.iadd, 1) := by decide +kernel
theorem dX6_about_24 : decode cX6_about 24 = .ok (.goto 4, 3) := by decide +kernel
theorem dX6_about_27 : decode cX6_about 27 = .ok (.iconst 0, 1) := by decide +kernel
theorem dX6_about_28 : decode cX6_about 28 = .ok (.ireturn, 1) := by decide +kernel
set_option maxRecDepth 20000 in
theorem ggX6_stock_X6_isDepot : GoodIn wsX6_stock wsX6_isDepot := goodIn_r _ [9, 10, 11, 8, 12] (by decide +kernel) (by decide +kernel)
set_option maxRecDepth 20000 in
theorem gX6_stock_X6_isDepot : GoodIn wsX6_stock (va_wsS RX6 73 yX6_isDepot wsX6_isDepot) := goodIn_app (goodIn_of _ (by decide +kernel)) ggX6_stock_X6_isDepot
set_option maxRecDepth 20000 in
theorem ggX6_stock_X6_isGood : GoodIn wsX6_stock wsX6_isGood := goodIn_r _ [15, 10, 11, 8, 12] (by decide +kernel) (by decide +kernel)
set_option maxRecDepth 20000 in
theorem gX6_stock_X6_isGood : GoodIn wsX6_stock (va_wsS RX6 97 yX6_isGood wsX6_isGood) := goodIn_app (goodIn_of _ (by decide +kernel)) ggX6_stock_X6_isGood
theorem dX6_stock_0 : decode cX6_stock 0 = .ok (.aload_n 0, 1) := by decide +kernel
theorem dX6_stock_1 : decode cX6_stock 1 = .ok (.iload_n 1, 1) := by decide +kernel
theorem dX6_stock_2 : decode cX6_stock 2 = .ok (.invokestatic 73, 3) := by decide +kernel
theorem dX6_stock_5 : decode cX6_stock 5 = .ok (.ifCond .eq 14, 3) := by decide +kernel
theorem dX6_stock_8 : decode cX6_stock 8 = .ok (.iload_n 2, 1) := by decide +kernel
theorem dX6_stock_9 : decode cX6_stock 9 = .ok (.invokestatic 97, 3) := by decide +kernel
theorem dX6_stock_12 : decode cX6_stock 12 = .ok (.ifCond .eq 7, 3) := by decide +kernel
theorem dX6_stock_15 : decode cX6_stock 15 = .ok (.iconst 0, 1) := by decide +kernel
theorem dX6_stock_16 : decode cX6_stock 16 = .ok (.goto 4, 3) := by decide +kernel
theorem dX6_stock_19 : decode cX6_stock 19 = .ok (.iconst 1, 1) := by decide +kernel
theorem dX6_stock_20 : decode cX6_stock 20 = .ok (.putfield 60, 3) := by decide +kernel
theorem dX6_stock_23 : decode cX6_stock 23 = .ok (.iconst 0, 1) := by decide +kernel
theorem dX6_stock_24 : decode cX6_stock 24 = .ok (.istore_n 3, 1) := by decide +kernel
theorem dX6_stock_25 : decode cX6_stock 25 = .ok (.iconst 0, 1) := by decide +kernel
theorem dX6_stock_26 : decode cX6_stock 26 = .ok (.istore 4, 2) := by decide +kernel
theorem dX6_stock_28 : decode cX6_stock 28 = .ok (.iload 4, 2) := by decide +kernel
theorem dX6_stock_30 : decode cX6_stock 30 = .ok (.aload_n 0, 1) := by decide +kernel
theorem dX6_stock_31 : decode cX6_stock 31 = .ok (.getfield 67, 3) := by decide +kernel
theorem dX6_stock_34 : decode cX6_stock 34 = .ok (.if_icmp .ge 52, 3) := by decide +kernel
theorem dX6_stock_37 : decode cX6_stock 37 = .ok (.aload_n 0, 1) := by decide +kernel
theorem dX6_stock_38 : decode cX6_stock 38 = .ok (.getfield 60, 3) := by decide +kernel
theorem dX6_stock_41 : decode cX6_stock 41 = .ok (.ifCond .ne 45, 3) := by decide +kernel
theorem dX6_stock_44 : decode cX6_stock 44 = .ok (.iload_n 3, 1) := by decide +kernel
theorem dX6_stock_45 : decode cX6_stock 45 = .ok (.aload_n 0, 1) := by decide +kernel
theorem dX6_stock_46 : decode cX6_stock 46 = .ok (.getfield 24, 3) := by decide +kernel
theorem dX6_stock_49 : decode cX6_stock 49 = .ok (.iload 4, 2) := by decide +kernel
theorem dX6_stock_51 : decode cX6_stock 51 = .ok (.iaload, 1) := by decide +kernel
theorem dX6_stock_52 : decode cX6_stock 52 = .ok (.iload_n 1, 1) := by decide +kernel
theorem dX6_stock_53 : decode cX6_stock 53 = .ok (.if_icmp .ne 24, 3) := by decide +kernel
theorem dX6_stock_56 : decode cX6_stock 56 = .ok (.aload_n 0, 1) := by decide +kernel
theorem dX6_stock_57 : decode cX6_stock 57 = .ok (.getfield 27, 3) := by decide +kernel
theorem dX6_stock_60 : decode cX6_stock 60 = .ok (.iload 4, 2) := by decide +kernel
theorem dX6_stock_62 : decode cX6_stock 62 = .ok (.iaload, 1) := by decide +kernel
theorem dX6_stock_63 : decode cX6_stock 63 = .ok (.iload_n 2, 1) := by decide +kernel
theorem dX6_stock_64 : decode cX6_stock 64 = .ok (.if_icmp .ne 13, 3) := by decide +kernel
theorem dX6_stock_67 : decode cX6_stock 67 = .ok (.aload_n 0, 1) := by decide +kernel
theorem dX6_stock_68 : decode cX6_stock 68 = .ok (.getfield 30, 3) := by decide +kernel
theorem dX6_stock_71 : decode cX6_stock 71 = .ok (.iload 4, 2) := by decide +kernel
theorem dX6_stock_73 : decode cX6_stock 73 = .ok (.iaload, 1) := by decide +kernel
theorem dX6_stock_74 : decode cX6_stock 74 = .ok (.goto 4, 3) := by decide +kernel
theorem dX6_stock_77 : decode cX6_stock 77 = .ok (.iconst 0, 1) := by decide +kernel
theorem dX6_stock_78 : decode cX6_stock 78 = .ok (.iadd, 1) := by decide +kernel
theorem dX6_stock_79 : decode cX6_stock 79 = .ok (.istore_n 3, 1) := by decide +kernel
theorem dX6_stock_80 : decode cX6_stock 80 = .ok (.iinc 4 1, 3) := by decide +kernel
theorem dX6_stock_83 : decode cX6_stock 83 = .ok (.goto (-55), 3) := by decide +kernel
theorem dX6_stock_86 : decode cX6_stock 86 = .ok (.iload_n 3, 1) := by decide +kernel
theorem dX6_stock_87 : decode cX6_stock 87 = .ok (.ireturn, 1) := by decide +kernel
set_option maxRecDepth 20000 in
theorem ggX6_stockByJournal_X6_isDepot : GoodIn wsX6_stockByJournal wsX6_isDepot := goodIn_r _ [10, 11, 12, 9, 13] (by decide +kernel) (by decide +kernel)
set_option maxRecDepth 20000 in
theorem gX6_stockByJournal_X6_isDepot : GoodIn wsX6_stockByJournal (va_wsS RX6 73 yX6_isDepot wsX6_isDepot) := goodIn_app (goodIn_of _ (by decide +kernel)) ggX6_stockByJournal_X6_isDepot
set_option maxRecDepth 20000 in
theorem ggX6_stockByJournal_X6_isGood : GoodIn wsX6_stockByJournal wsX6_isGood := goodIn_r _ [16, 11, 12, 9, 13] (by decide +kernel) (by decide +kernel)
set_option maxRecDepth 20000 in
theorem gX6_stockByJournal_X6_isGood : GoodIn wsX6_stockByJournal (va_wsS RX6 97 yX6_isGood wsX6_isGood) := goodIn_app (goodIn_of _ (by decide +kernel)) ggX6_stockByJournal_X6_isGood
theorem dX6_stockByJournal_0 : decode cX6_stockByJournal 0 = .ok (.aload_n 0, 1) := by decide +kernel
theorem dX6_stockByJournal_1 : decode cX6_stockByJournal 1 = .ok (.iload_n 1, 1) := by decide +kernel
theorem dX6_stockByJournal_2 : decode cX6_stockByJournal 2 = .ok (.invokestatic 73, 3) := by decide +kernel
theorem dX6_stockByJournal_5 : decode cX6_stockByJournal 5 = .ok (.ifCond .eq 14, 3) := by decide +kernel
theorem dX6_stockByJournal_8 : decode cX6_stockByJournal 8 = .ok (.iload_n 2, 1) := by decide +kernel
theorem dX6_stockByJournal_9 : decode cX6_stockByJournal 9 = .ok (.invokestatic 97, 3) := by decide +kernel
theorem dX6_stockByJournal_12 : decode cX6_stockByJournal 12 = .ok (.ifCond .eq 7, 3) := by decide +kernel
theorem dX6_stockByJournal_15 : decode cX6_stockByJournal 15 = .ok (.iconst 0, 1) := by decide +kernel
theorem dX6_stockByJournal_16 : decode cX6_stockByJournal 16 = .ok (.goto 4, 3) := by decide +kernel
theorem dX6_stockByJournal_19 : decode cX6_stockByJournal 19 = .ok (.iconst 1, 1) := by decide +kernel
theorem dX6_stockByJournal_20 : decode cX6_stockByJournal 20 = .ok (.putfield 60, 3) := by decide +kernel
theorem dX6_stockByJournal_23 : decode cX6_stockByJournal 23 = .ok (.iconst 0, 1) := by decide +kernel
theorem dX6_stockByJournal_24 : decode cX6_stockByJournal 24 = .ok (.istore_n 3, 1) := by decide +kernel
theorem dX6_stockByJournal_25 : decode cX6_stockByJournal 25 = .ok (.iconst 0, 1) := by decide +kernel
theorem dX6_stockByJournal_26 : decode cX6_stockByJournal 26 = .ok (.istore 4, 2) := by decide +kernel
theorem dX6_stockByJournal_28 : decode cX6_stockByJournal 28 = .ok (.iload 4, 2) := by decide +kernel
theorem dX6_stockByJournal_30 : decode cX6_stockByJournal 30 = .ok (.aload_n 0, 1) := by decide +kernel
theorem dX6_stockByJournal_31 : decode cX6_stockByJournal 31 = .ok (.getfield 91, 3) := by decide +kernel
theorem dX6_stockByJournal_34 : decode cX6_stockByJournal 34 = .ok (.if_icmp .ge 61, 3) := by decide +kernel
theorem dX6_stockByJournal_37 : decode cX6_stockByJournal 37 = .ok (.aload_n 0, 1) := by decide +kernel
theorem dX6_stockByJournal_38 : decode cX6_stockByJournal 38 = .ok (.getfield 60, 3) := by decide +kernel
theorem dX6_stockByJournal_41 : decode cX6_stockByJournal 41 = .ok (.ifCond .ne 54, 3) := by decide +kernel
theorem dX6_stockByJournal_44 : decode cX6_stockByJournal 44 = .ok (.aload_n 0, 1) := by decide +kernel
theorem dX6_stockByJournal_45 : decode cX6_stockByJournal 45 = .ok (.getfield 45, 3) := by decide +kernel
theorem dX6_stockByJournal_48 : decode cX6_stockByJournal 48 = .ok (.iload 4, 2) := by decide +kernel
theorem dX6_stockByJournal_50 : decode cX6_stockByJournal 50 = .ok (.iaload, 1) := by decide +kernel
theorem dX6_stockByJournal_51 : decode cX6_stockByJournal 51 = .ok (.istore 5, 2) := by decide +kernel
theorem dX6_stockByJournal_53 : decode cX6_stockByJournal 53 = .ok (.iload_n 3, 1) := by decide +kernel
theorem dX6_stockByJournal_54 : decode cX6_stockByJournal 54 = .ok (.aload_n 0, 1) := by decide +kernel
theorem dX6_stockByJournal_55 : decode cX6_stockByJournal 55 = .ok (.getfield 24, 3) := by decide +kernel
theorem dX6_stockByJournal_58 : decode cX6_stockByJournal 58 = .ok (.iload 5, 2) := by decide +kernel
theorem dX6_stockByJournal_60 : decode cX6_stockByJournal 60 = .ok (.iaload, 1) := by decide +kernel
theorem dX6_stockByJournal_61 : decode cX6_stockByJournal 61 = .ok (.iload_n 1, 1) := by decide +kernel
theorem dX6_stockByJournal_62 : decode cX6_stockByJournal 62 = .ok (.if_icmp .ne 24, 3) := by decide +kernel
theorem dX6_stockByJournal_65 : decode cX6_stockByJournal 65 = .ok (.aload_n 0, 1) := by decide +kernel
theorem dX6_stockByJournal_66 : decode cX6_stockByJournal 66 = .ok (.getfield 27, 3) := by decide +kernel
theorem dX6_stockByJournal_69 : decode cX6_stockByJournal 69 = .ok (.iload 5, 2) := by decide +kernel
theorem dX6_stockByJournal_71 : decode cX6_stockByJournal 71 = .ok (.iaload, 1) := by decide +kernel
theorem dX6_stockByJournal_72 : decode cX6_stockByJournal 72 = .ok (.iload_n 2, 1) := by decide +kernel
theorem dX6_stockByJournal_73 : decode cX6_stockByJournal 73 = .ok (.if_icmp .ne 13, 3) := by decide +kernel
theorem dX6_stockByJournal_76 : decode cX6_stockByJournal 76 = .ok (.aload_n 0, 1) := by decide +kernel
theorem dX6_stockByJournal_77 : decode cX6_stockByJournal 77 = .ok (.getfield 48, 3) := by decide +kernel
theorem dX6_stockByJournal_80 : decode cX6_stockByJournal 80 = .ok (.iload 4, 2) := by decide +kernel
theorem dX6_stockByJournal_82 : decode cX6_stockByJournal 82 = .ok (.iaload, 1) := by decide +kernel
theorem dX6_stockByJournal_83 : decode cX6_stockByJournal 83 = .ok (.goto 4, 3) := by decide +kernel
theorem dX6_stockByJournal_86 : decode cX6_stockByJournal 86 = .ok (.iconst 0, 1) := by decide +kernel
theorem dX6_stockByJournal_87 : decode cX6_stockByJournal 87 = .ok (.iadd, 1) := by decide +kernel
theorem dX6_stockByJournal_88 : decode cX6_stockByJournal 88 = .ok (.istore_n 3, 1) := by decide +kernel
theorem dX6_stockByJournal_89 : decode cX6_stockByJournal 89 = .ok (.iinc 4 1, 3) := by decide +kernel
theorem dX6_stockByJournal_92 : decode cX6_stockByJournal 92 = .ok (.goto (-64), 3) := by decide +kernel
theorem dX6_stockByJournal_95 : decode cX6_stockByJournal 95 = .ok (.iload_n 3, 1) := by decide +kernel
theorem dX6_stockByJournal_96 : decode cX6_stockByJournal 96 = .ok (.ireturn, 1) := by decide +kernel
set_option maxRecDepth 20000 in
theorem ggX6_enoughFor_X6_allNeed : GoodIn wsX6_enoughFor wsX6_allNeed := goodIn_r _ [6, 7, 20, 21, 22, 23, 24, 25, 26, 27, 28, 29, 30, 31, 32, 33, 34, 35, 36, 37, 38, 39, 40, 41] (by decide +kernel) (by decide +kernel)
set_option maxRecDepth 20000 in
theorem gX6_enoughFor_X6_allNeed : GoodIn wsX6_enoughFor (wsV RX6 114 RX6 yX6_allNeed wsX6_allNeed) := goodIn_app (goodIn_of _ (by decide +kernel)) ggX6_enoughFor_X6_allNeed
set_option maxRecDepth 20000 in
theorem ggX6_enoughFor_X6_allFood : GoodIn wsX6_enoughFor wsX6_allFood := goodIn_r _ [11, 12, 13, 14, 15, 16, 5, 17, 18, 19, 20, 21, 22, 23, 24, 25, 26, 27, 28, 29, 30, 31, 32, 33, 34, 35, 36, 37, 38, 39, 40, 41] (by decide +kernel) (by decide +kernel)
set_option maxRecDepth 20000 in
theorem gX6_enoughFor_X6_allFood : GoodIn wsX6_enoughFor (wsV RX6 118 RX6 yX6_allFood wsX6_allFood) := goodIn_app (goodIn_of _ (by decide +kernel)) ggX6_enoughFor_X6_allFood
theorem dX6_enoughFor_0 : decode cX6_enoughFor 0 = .ok (.aload_n 0, 1) := by decide +kernel
theorem dX6_enoughFor_1 : decode cX6_enoughFor 1 = .ok (.iconst 0, 1) := by decide +kernel
theorem dX6_enoughFor_2 : decode cX6_enoughFor 2 = .ok (.putfield 60, 3) := by decide +kernel
theorem dX6_enoughFor_5 : decode cX6_enoughFor 5 = .ok (.aload_n 0, 1) := by decide +kernel
theorem dX6_enoughFor_6 : decode cX6_enoughFor 6 = .ok (.invokevirtual 114, 3) := by decide +kernel
theorem dX6_enoughFor_9 : decode cX6_enoughFor 9 = .ok (.istore_n 1, 1) := by decide +kernel
theorem dX6_enoughFor_10 : decode cX6_enoughFor 10 = .ok (.iload_n 1, 1) := by decide +kernel
theorem dX6_enoughFor_11 : decode cX6_enoughFor 11 = .ok (.ifCond .ne 7, 3) := by decide +kernel
theorem dX6_enoughFor_14 : decode cX6_enoughFor 14 = .ok (.iconst (-1), 1) := by decide +kernel
theorem dX6_enoughFor_15 : decode cX6_enoughFor 15 = .ok (.goto 9, 3) := by decide +kernel
theorem dX6_enoughFor_18 : decode cX6_enoughFor 18 = .ok (.aload_n 0, 1) := by decide +kernel
theorem dX6_enoughFor_19 : decode cX6_enoughFor 19 = .ok (.invokevirtual 118, 3) := by decide +kernel
theorem dX6_enoughFor_22 : decode cX6_enoughFor 22 = .ok (.iload_n 1, 1) := by decide +kernel
theorem dX6_enoughFor_23 : decode cX6_enoughFor 23 = .ok (.idiv, 1) := by decide +kernel
theorem dX6_enoughFor_24 : decode cX6_enoughFor 24 = .ok (.ireturn, 1) := by decide +kernel
theorem dX6_entries_0 : decode cX6_entries 0 = .ok (.aload_n 0, 1) := by decide +kernel
theorem dX6_entries_1 : decode cX6_entries 1 = .ok (.iconst 0, 1) := by decide +kernel
theorem dX6_entries_2 : decode cX6_entries 2 = .ok (.putfield 60, 3) := by decide +kernel
theorem dX6_entries_5 : decode cX6_entries 5 = .ok (.aload_n 0, 1) := by decide +kernel
theorem dX6_entries_6 : decode cX6_entries 6 = .ok (.getfield 91, 3) := by decide +kernel
theorem dX6_entries_9 : decode cX6_entries 9 = .ok (.ireturn, 1) := by decide +kernel
set_option maxRecDepth 20000 in
theorem ggX6_isEntry_X6_in : GoodIn wsX6_isEntry wsX6_in := goodIn_r _ [5] (by decide +kernel) (by decide +kernel)
set_option maxRecDepth 20000 in
theorem gX6_isEntry_X6_in : GoodIn wsX6_isEntry (va_wsS RX6 63 yX6_in wsX6_in) := goodIn_app (goodIn_of _ (by decide +kernel)) ggX6_isEntry_X6_in
theorem dX6_isEntry_0 : decode cX6_isEntry 0 = .ok (.iload_n 1, 1) := by decide +kernel
theorem dX6_isEntry_1 : decode cX6_isEntry 1 = .ok (.iconst 0, 1) := by decide +kernel
theorem dX6_isEntry_2 : decode cX6_isEntry 2 = .ok (.aload_n 0, 1) := by decide +kernel
theorem dX6_isEntry_3 : decode cX6_isEntry 3 = .ok (.getfield 91, 3) := by decide +kernel
theorem dX6_isEntry_6 : decode cX6_isEntry 6 = .ok (.iconst 1, 1) := by decide +kernel
theorem dX6_isEntry_7 : decode cX6_isEntry 7 = .ok (.isub, 1) := by decide +kernel
theorem dX6_isEntry_8 : decode cX6_isEntry 8 = .ok (.invokestatic 63, 3) := by decide +kernel
theorem dX6_isEntry_11 : decode cX6_isEntry 11 = .ok (.ireturn, 1) := by decide +kernel
set_option maxRecDepth 20000 in
theorem ggX6_changeOf_X6_isEntry : GoodIn wsX6_changeOf wsX6_isEntry := goodIn_r _ [7, 8, 9, 10, 6, 11, 12, 13, 14, 15, 16, 17, 18, 19, 20, 21, 22, 23, 24, 25, 26, 27, 28, 29, 30, 31, 32, 33] (by decide +kernel) (by decide +kernel)
set_option maxRecDepth 20000 in
theorem gX6_changeOf_X6_isEntry : GoodIn wsX6_changeOf (wsV RX6 137 RX6 yX6_isEntry wsX6_isEntry) := goodIn_app (goodIn_of _ (by decide +kernel)) ggX6_changeOf_X6_isEntry
theorem dX6_changeOf_0 : decode cX6_changeOf 0 = .ok (.aload_n 0, 1) := by decide +kernel
theorem dX6_changeOf_1 : decode cX6_changeOf 1 = .ok (.aload_n 0, 1) := by decide +kernel
theorem dX6_changeOf_2 : decode cX6_changeOf 2 = .ok (.iload_n 1, 1) := by decide +kernel
theorem dX6_changeOf_3 : decode cX6_changeOf 3 = .ok (.invokevirtual 137, 3) := by decide +kernel
theorem dX6_changeOf_6 : decode cX6_changeOf 6 = .ok (.ifCond .eq 7, 3) := by decide +kernel
theorem dX6_changeOf_9 : decode cX6_changeOf 9 = .ok (.iconst 0, 1) := by decide +kernel
theorem dX6_changeOf_10 : decode cX6_changeOf 10 = .ok (.goto 4, 3) := by decide +kernel
theorem dX6_changeOf_13 : decode cX6_changeOf 13 = .ok (.iconst 1, 1) := by decide +kernel
theorem dX6_changeOf_14 : decode cX6_changeOf 14 = .ok (.putfield 60, 3) := by decide +kernel
theorem dX6_changeOf_17 : decode cX6_changeOf 17 = .ok (.aload_n 0, 1) := by decide +kernel
theorem dX6_changeOf_18 : decode cX6_changeOf 18 = .ok (.getfield 60, 3) := by decide +kernel
theorem dX6_changeOf_21 : decode cX6_changeOf 21 = .ok (.ifCond .le 7, 3) := by decide +kernel
theorem dX6_changeOf_24 : decode cX6_changeOf 24 = .ok (.iconst 0, 1) := by decide +kernel
theorem dX6_changeOf_25 : decode cX6_changeOf 25 = .ok (.goto 9, 3) := by decide +kernel
theorem dX6_changeOf_28 : decode cX6_changeOf 28 = .ok (.aload_n 0, 1) := by decide +kernel
theorem dX6_changeOf_29 : decode cX6_changeOf 29 = .ok (.getfield 48, 3) := by decide +kernel
theorem dX6_changeOf_32 : decode cX6_changeOf 32 = .ok (.iload_n 1, 1) := by decide +kernel
theorem dX6_changeOf_33 : decode cX6_changeOf 33 = .ok (.iaload, 1) := by decide +kernel
theorem dX6_changeOf_34 : decode cX6_changeOf 34 = .ok (.ireturn, 1) := by decide +kernel
set_option maxRecDepth 20000 in
theorem ggX6_lotOf_X6_isEntry : GoodIn wsX6_lotOf wsX6_isEntry := goodIn_r _ [8, 9, 10, 11, 7, 12, 13, 14, 15, 16, 17, 18, 19, 20, 21, 22, 23, 24, 25, 26, 27, 28, 29, 30, 31, 32, 33, 34] (by decide +kernel) (by decide +kernel)
set_option maxRecDepth 20000 in
theorem gX6_lotOf_X6_isEntry : GoodIn wsX6_lotOf (wsV RX6 137 RX6 yX6_isEntry wsX6_isEntry) := goodIn_app (goodIn_of _ (by decide +kernel)) ggX6_lotOf_X6_isEntry
theorem dX6_lotOf_0 : decode cX6_lotOf 0 = .ok (.aload_n 0, 1) := by decide +kernel
theorem dX6_lotOf_1 : decode cX6_lotOf 1 = .ok (.aload_n 0, 1) := by decide +kernel
theorem dX6_lotOf_2 : decode cX6_lotOf 2 = .ok (.iload_n 1, 1) := by decide +kernel
theorem dX6_lotOf_3 : decode cX6_lotOf 3 = .ok (.invokevirtual 137, 3) := by decide +kernel
theorem dX6_lotOf_6 : decode cX6_lotOf 6 = .ok (.ifCond .eq 7, 3) := by decide +kernel
theorem dX6_lotOf_9 : decode cX6_lotOf 9 = .ok (.iconst 0, 1) := by decide +kernel
theorem dX6_lotOf_10 : decode cX6_lotOf 10 = .ok (.goto 4, 3) := by decide +kernel
theorem dX6_lotOf_13 : decode cX6_lotOf 13 = .ok (.iconst 1, 1) := by decide +kernel
theorem dX6_lotOf_14 : decode cX6_lotOf 14 = .ok (.putfield 60, 3) := by decide +kernel
theorem dX6_lotOf_17 : decode cX6_lotOf 17 = .ok (.aload_n 0, 1) := by decide +kernel
theorem dX6_lotOf_18 : decode cX6_lotOf 18 = .ok (.getfield 60, 3) := by decide +kernel
theorem dX6_lotOf_21 : decode cX6_lotOf 21 = .ok (.ifCond .le 7, 3) := by decide +kernel
theorem dX6_lotOf_24 : decode cX6_lotOf 24 = .ok (.iconst 0, 1) := by decide +kernel
theorem dX6_lotOf_25 : decode cX6_lotOf 25 = .ok (.goto 19, 3) := by decide +kernel
theorem dX6_lotOf_28 : decode cX6_lotOf 28 = .ok (.bipush 10, 2) := by decide +kernel
theorem dX6_lotOf_30 : decode cX6_lotOf 30 = .ok (.aload_n 0, 1) := by decide +kernel
theorem dX6_lotOf_31 : decode cX6_lotOf 31 = .ok (.getfield 45, 3) := by decide +kernel
theorem dX6_lotOf_34 : decode cX6_lotOf 34 = .ok (.iload_n 1, 1) := by decide +kernel
theorem dX6_lotOf_35 : decode cX6_lotOf 35 = .ok (.iaload, 1) := by decide +kernel
theorem dX6_lotOf_36 : decode cX6_lotOf 36 = .ok (.imul, 1) := by decide +kernel
theorem dX6_lotOf_37 : decode cX6_lotOf 37 = .ok (.aload_n 0, 1) := by decide +kernel
theorem dX6_lotOf_38 : decode cX6_lotOf 38 = .ok (.getfield 51, 3) := by decide +kernel
theorem dX6_lotOf_41 : decode cX6_lotOf 41 = .ok (.iload_n 1, 1) := by decide +kernel
theorem dX6_lotOf_42 : decode cX6_lotOf 42 = .ok (.iaload, 1) := by decide +kernel
theorem dX6_lotOf_43 : decode cX6_lotOf 43 = .ok (.iadd, 1) := by decide +kernel
theorem dX6_lotOf_44 : decode cX6_lotOf 44 = .ok (.ireturn, 1) := by decide +kernel
set_option maxRecDepth 20000 in
theorem ggX6_changed_X6_in : GoodIn wsX6_changed wsX6_in := goodIn_r _ [9] (by decide +kernel) (by decide +kernel)
set_option maxRecDepth 20000 in
theorem gX6_changed_X6_in : GoodIn wsX6_changed (va_wsS RX6 63 yX6_in wsX6_in) := goodIn_app (goodIn_of _ (by decide +kernel)) ggX6_changed_X6_in
theorem dX6_changed_0 : decode cX6_changed 0 = .ok (.aload_n 0, 1) := by decide +kernel
theorem dX6_changed_1 : decode cX6_changed 1 = .ok (.iload_n 1, 1) := by decide +kernel
theorem dX6_changed_2 : decode cX6_changed 2 = .ok (.ifCond .lt 16, 3) := by decide +kernel
theorem dX6_changed_5 : decode cX6_changed 5 = .ok (.iload_n 2, 1) := by decide +kernel
theorem dX6_changed_6 : decode cX6_changed 6 = .ok (.iconst 0, 1) := by decide +kernel
theorem dX6_changed_7 : decode cX6_changed 7 = .ok (.iconst 5, 1) := by decide +kernel
theorem dX6_changed_8 : decode cX6_changed 8 = .ok (.invokestatic 63, 3) := by decide +kernel
theorem dX6_changed_11 : decode cX6_changed 11 = .ok (.ifCond .eq 7, 3) := by decide +kernel
theorem dX6_changed_14 : decode cX6_changed 14 = .ok (.iconst 0, 1) := by decide +kernel
theorem dX6_changed_15 : decode cX6_changed 15 = .ok (.goto 4, 3) := by decide +kernel
theorem dX6_changed_18 : decode cX6_changed 18 = .ok (.iconst 1, 1) := by decide +kernel
theorem dX6_changed_19 : decode cX6_changed 19 = .ok (.putfield 60, 3) := by decide +kernel
theorem dX6_changed_22 : decode cX6_changed 22 = .ok (.iconst 0, 1) := by decide +kernel
theorem dX6_changed_23 : decode cX6_changed 23 = .ok (.istore_n 3, 1) := by decide +kernel
theorem dX6_changed_24 : decode cX6_changed 24 = .ok (.iconst 0, 1) := by decide +kernel
theorem dX6_changed_25 : decode cX6_changed 25 = .ok (.istore 4, 2) := by decide +kernel
theorem dX6_changed_27 : decode cX6_changed 27 = .ok (.iload 4, 2) := by decide +kernel
theorem dX6_changed_29 : decode cX6_changed 29 = .ok (.aload_n 0, 1) := by decide +kernel
theorem dX6_changed_30 : decode cX6_changed 30 = .ok (.getfield 91, 3) := by decide +kernel
theorem dX6_changed_33 : decode cX6_changed 33 = .ok (.if_icmp .ge 52, 3) := by decide +kernel
theorem dX6_changed_36 : decode cX6_changed 36 = .ok (.aload_n 0, 1) := by decide +kernel
theorem dX6_changed_37 : decode cX6_changed 37 = .ok (.getfield 60, 3) := by decide +kernel
theorem dX6_changed_40 : decode cX6_changed 40 = .ok (.ifCond .ne 45, 3) := by decide +kernel
theorem dX6_changed_43 : decode cX6_changed 43 = .ok (.iload_n 3, 1) := by decide +kernel
theorem dX6_changed_44 : decode cX6_changed 44 = .ok (.aload_n 0, 1) := by decide +kernel
theorem dX6_changed_45 : decode cX6_changed 45 = .ok (.getfield 42, 3) := by decide +kernel
theorem dX6_changed_48 : decode cX6_changed 48 = .ok (.iload 4, 2) := by decide +kernel
theorem dX6_changed_50 : decode cX6_changed 50 = .ok (.iaload, 1) := by decide +kernel
theorem dX6_changed_51 : decode cX6_changed 51 = .ok (.iload_n 1, 1) := by decide +kernel
theorem dX6_changed_52 : decode cX6_changed 52 = .ok (.if_icmp .ne 24, 3) := by decide +kernel
theorem dX6_changed_55 : decode cX6_changed 55 = .ok (.aload_n 0, 1) := by decide +kernel
theorem dX6_changed_56 : decode cX6_changed 56 = .ok (.getfield 51, 3) := by decide +kernel
theorem dX6_changed_59 : decode cX6_changed 59 = .ok (.iload 4, 2) := by decide +kernel
theorem dX6_changed_61 : decode cX6_changed 61 = .ok (.iaload, 1) := by decide +kernel
theorem dX6_changed_62 : decode cX6_changed 62 = .ok (.iload_n 2, 1) := by decide +kernel
theorem dX6_changed_63 : decode cX6_changed 63 = .ok (.if_icmp .ne 13, 3) := by decide +kernel
theorem dX6_changed_66 : decode cX6_changed 66 = .ok (.aload_n 0, 1) := by decide +kernel
theorem dX6_changed_67 : decode cX6_changed 67 = .ok (.getfield 48, 3) := by decide +kernel
theorem dX6_changed_70 : decode cX6_changed 70 = .ok (.iload 4, 2) := by decide +kernel
theorem dX6_changed_72 : decode cX6_changed 72 = .ok (.iaload, 1) := by decide +kernel
theorem dX6_changed_73 : decode cX6_changed 73 = .ok (.goto 4, 3) := by decide +kernel
theorem dX6_changed_76 : decode cX6_changed 76 = .ok (.iconst 0, 1) := by decide +kernel
theorem dX6_changed_77 : decode cX6_changed 77 = .ok (.iadd, 1) := by decide +kernel
theorem dX6_changed_78 : decode cX6_changed 78 = .ok (.istore_n 3, 1) := by decide +kernel
theorem dX6_changed_79 : decode cX6_changed 79 = .ok (.iinc 4 1, 3) := by decide +kernel
theorem dX6_changed_82 : decode cX6_changed 82 = .ok (.goto (-55), 3) := by decide +kernel
theorem dX6_changed_85 : decode cX6_changed 85 = .ok (.iload_n 3, 1) := by decide +kernel
theorem dX6_changed_86 : decode cX6_changed 86 = .ok (.ireturn, 1) := by decide +kernel

theorem dX0_init_0 : decode cX0_init 0 = .ok (.aload_n 0, 1) := by decide +kernel
theorem dX0_init_1 : decode cX0_init 1 = .ok (.invokespecial 3, 3) := by decide +kernel
theorem dX0_init_4 : decode cX0_init 4 = .ok (.aload_n 0, 1) := by decide +kernel
theorem dX0_init_5 : decode cX0_init 5 = .ok (.iconst 0, 1) := by decide +kernel
theorem dX0_init_6 : decode cX0_init 6 = .ok (.putfield 9, 3) := by decide +kernel
theorem dX0_init_9 : decode cX0_init 9 = .ok (.aload_n 0, 1) := by decide +kernel
theorem dX0_init_10 : decode cX0_init 10 = .ok (.iconst (-1), 1) := by decide +kernel
theorem dX0_init_11 : decode cX0_init 11 = .ok (.putfield 15, 3) := by decide +kernel
theorem dX0_init_14 : decode cX0_init 14 = .ok (.return_, 1) := by decide +kernel
theorem dX0_become_0 : decode cX0_become 0 = .ok (.aload_n 0, 1) := by decide +kernel
theorem dX0_become_1 : decode cX0_become 1 = .ok (.iload_n 1, 1) := by decide +kernel
theorem dX0_become_2 : decode cX0_become 2 = .ok (.putfield 9, 3) := by decide +kernel
theorem dX0_become_5 : decode cX0_become 5 = .ok (.aload_n 0, 1) := by decide +kernel
theorem dX0_become_6 : decode cX0_become 6 = .ok (.iload_n 2, 1) := by decide +kernel
theorem dX0_become_7 : decode cX0_become 7 = .ok (.putfield 15, 3) := by decide +kernel
theorem dX0_become_10 : decode cX0_become 10 = .ok (.return_, 1) := by decide +kernel
theorem dX0_include_0 : decode cX0_include 0 = .ok (.aload_n 0, 1) := by decide +kernel
theorem dX0_include_1 : decode cX0_include 1 = .ok (.getfield 9, 3) := by decide +kernel
theorem dX0_include_4 : decode cX0_include 4 = .ok (.iload_n 1, 1) := by decide +kernel
theorem dX0_include_5 : decode cX0_include 5 = .ok (.if_icmp .gt 15, 3) := by decide +kernel
theorem dX0_include_8 : decode cX0_include 8 = .ok (.iload_n 1, 1) := by decide +kernel
theorem dX0_include_9 : decode cX0_include 9 = .ok (.aload_n 0, 1) := by decide +kernel
theorem dX0_include_10 : decode cX0_include 10 = .ok (.getfield 15, 3) := by decide +kernel
theorem dX0_include_13 : decode cX0_include 13 = .ok (.if_icmp .gt 7, 3) := by decide +kernel
theorem dX0_include_16 : decode cX0_include 16 = .ok (.iconst 1, 1) := by decide +kernel
theorem dX0_include_17 : decode cX0_include 17 = .ok (.goto 4, 3) := by decide +kernel
theorem dX0_include_20 : decode cX0_include 20 = .ok (.iconst 0, 1) := by decide +kernel
theorem dX0_include_21 : decode cX0_include 21 = .ok (.ireturn, 1) := by decide +kernel
set_option maxRecDepth 20000 in
theorem ggX1_init_X0_init : GoodIn wsX1_init wsX0_init := goodIn_r _ [11, 12, 2, 3, 13, 14, 15, 16] (by decide +kernel) (by decide +kernel)
set_option maxRecDepth 20000 in
theorem gX1_init_X0_init_n9 : GoodIn wsX1_init (wsX0_init) := ggX1_init_X0_init
theorem dX1_init_0 : decode cX1_init 0 = .ok (.aload_n 0, 1) := by decide +kernel
theorem dX1_init_1 : decode cX1_init 1 = .ok (.invokespecial 1, 3) := by decide +kernel
theorem dX1_init_4 : decode cX1_init 4 = .ok (.aload_n 0, 1) := by decide +kernel
theorem dX1_init_5 : decode cX1_init 5 = .ok (.new 7, 3) := by decide +kernel
theorem dX1_init_8 : decode cX1_init 8 = .ok (.dup, 1) := by decide +kernel
theorem dX1_init_9 : decode cX1_init 9 = .ok (.invokespecial 9, 3) := by decide +kernel
theorem dX1_init_12 : decode cX1_init 12 = .ok (.putfield 10, 3) := by decide +kernel
theorem dX1_init_15 : decode cX1_init 15 = .ok (.aload_n 0, 1) := by decide +kernel
theorem dX1_init_16 : decode cX1_init 16 = .ok (.iload_n 1, 1) := by decide +kernel
theorem dX1_init_17 : decode cX1_init 17 = .ok (.putfield 16, 3) := by decide +kernel
theorem dX1_init_20 : decode cX1_init 20 = .ok (.aload_n 0, 1) := by decide +kernel
theorem dX1_init_21 : decode cX1_init 21 = .ok (.iload_n 2, 1) := by decide +kernel
theorem dX1_init_22 : decode cX1_init 22 = .ok (.putfield 20, 3) := by decide +kernel
theorem dX1_init_25 : decode cX1_init 25 = .ok (.return_, 1) := by decide +kernel
theorem dX2_init_0 : decode cX2_init 0 = .ok (.aload_n 0, 1) := by decide +kernel
theorem dX2_init_1 : decode cX2_init 1 = .ok (.invokespecial 1, 3) := by decide +kernel
theorem dX2_init_4 : decode cX2_init 4 = .ok (.aload_n 0, 1) := by decide +kernel
theorem dX2_init_5 : decode cX2_init 5 = .ok (.iload_n 1, 1) := by decide +kernel
theorem dX2_init_6 : decode cX2_init 6 = .ok (.putfield 7, 3) := by decide +kernel
theorem dX2_init_9 : decode cX2_init 9 = .ok (.aload_n 0, 1) := by decide +kernel
theorem dX2_init_10 : decode cX2_init 10 = .ok (.aload_n 2, 1) := by decide +kernel
theorem dX2_init_11 : decode cX2_init 11 = .ok (.putfield 13, 3) := by decide +kernel
theorem dX2_init_14 : decode cX2_init 14 = .ok (.aload_n 0, 1) := by decide +kernel
theorem dX2_init_15 : decode cX2_init 15 = .ok (.iload_n 3, 1) := by decide +kernel
theorem dX2_init_16 : decode cX2_init 16 = .ok (.putfield 17, 3) := by decide +kernel
theorem dX2_init_19 : decode cX2_init 19 = .ok (.aload_n 0, 1) := by decide +kernel
theorem dX2_init_20 : decode cX2_init 20 = .ok (.iload 4, 2) := by decide +kernel
theorem dX2_init_22 : decode cX2_init 22 = .ok (.putfield 20, 3) := by decide +kernel
theorem dX2_init_25 : decode cX2_init 25 = .ok (.return_, 1) := by decide +kernel
theorem dX3_init_0 : decode cX3_init 0 = .ok (.aload_n 0, 1) := by decide +kernel
theorem dX3_init_1 : decode cX3_init 1 = .ok (.invokespecial 3, 3) := by decide +kernel
theorem dX3_init_4 : decode cX3_init 4 = .ok (.aload_n 0, 1) := by decide +kernel
theorem dX3_init_5 : decode cX3_init 5 = .ok (.iconst 0, 1) := by decide +kernel
theorem dX3_init_6 : decode cX3_init 6 = .ok (.putfield 9, 3) := by decide +kernel
theorem dX3_init_9 : decode cX3_init 9 = .ok (.aload_n 0, 1) := by decide +kernel
theorem dX3_init_10 : decode cX3_init 10 = .ok (.iload_n 1, 1) := by decide +kernel
theorem dX3_init_11 : decode cX3_init 11 = .ok (.putfield 15, 3) := by decide +kernel
theorem dX3_init_14 : decode cX3_init 14 = .ok (.aload_n 0, 1) := by decide +kernel
theorem dX3_init_15 : decode cX3_init 15 = .ok (.aload_n 2, 1) := by decide +kernel
theorem dX3_init_16 : decode cX3_init 16 = .ok (.putfield 18, 3) := by decide +kernel
theorem dX3_init_19 : decode cX3_init 19 = .ok (.aload_n 0, 1) := by decide +kernel
theorem dX3_init_20 : decode cX3_init 20 = .ok (.iload_n 3, 1) := by decide +kernel
theorem dX3_init_21 : decode cX3_init 21 = .ok (.putfield 22, 3) := by decide +kernel
theorem dX3_init_24 : decode cX3_init 24 = .ok (.aload_n 0, 1) := by decide +kernel
theorem dX3_init_25 : decode cX3_init 25 = .ok (.iload 4, 2) := by decide +kernel
theorem dX3_init_27 : decode cX3_init 27 = .ok (.putfield 25, 3) := by decide +kernel
theorem dX3_init_30 : decode cX3_init 30 = .ok (.return_, 1) := by decide +kernel
theorem dX3_isOf_0 : decode cX3_isOf 0 = .ok (.aload_n 0, 1) := by decide +kernel
theorem dX3_isOf_1 : decode cX3_isOf 1 = .ok (.getfield 18, 3) := by decide +kernel
theorem dX3_isOf_4 : decode cX3_isOf 4 = .ok (.getfield 28, 3) := by decide +kernel
theorem dX3_isOf_7 : decode cX3_isOf 7 = .ok (.iload_n 1, 1) := by decide +kernel
theorem dX3_isOf_8 : decode cX3_isOf 8 = .ok (.if_icmp .ne 15, 3) := by decide +kernel
theorem dX3_isOf_11 : decode cX3_isOf 11 = .ok (.aload_n 0, 1) := by decide +kernel
theorem dX3_isOf_12 : decode cX3_isOf 12 = .ok (.getfield 22, 3) := by decide +kernel
theorem dX3_isOf_15 : decode cX3_isOf 15 = .ok (.iload_n 2, 1) := by decide +kernel
theorem dX3_isOf_16 : decode cX3_isOf 16 = .ok (.if_icmp .ne 7, 3) := by decide +kernel
theorem dX3_isOf_19 : decode cX3_isOf 19 = .ok (.iconst 1, 1) := by decide +kernel
theorem dX3_isOf_20 : decode cX3_isOf 20 = .ok (.goto 4, 3) := by decide +kernel
theorem dX3_isOf_23 : decode cX3_isOf 23 = .ok (.iconst 0, 1) := by decide +kernel
theorem dX3_isOf_24 : decode cX3_isOf 24 = .ok (.ireturn, 1) := by decide +kernel
theorem dX3_isFoodInStation_0 : decode cX3_isFoodInStation 0 = .ok (.aload_n 0, 1) := by decide +kernel
theorem dX3_isFoodInStation_1 : decode cX3_isFoodInStation 1 = .ok (.getfield 18, 3) := by decide +kernel
theorem dX3_isFoodInStation_4 : decode cX3_isFoodInStation 4 = .ok (.getfield 28, 3) := by decide +kernel
theorem dX3_isFoodInStation_7 : decode cX3_isFoodInStation 7 = .ok (.ifCond .ne 15, 3) := by decide +kernel
theorem dX3_isFoodInStation_10 : decode cX3_isFoodInStation 10 = .ok (.aload_n 0, 1) := by decide +kernel
theorem dX3_isFoodInStation_11 : decode cX3_isFoodInStation 11 = .ok (.getfield 22, 3) := by decide +kernel
theorem dX3_isFoodInStation_14 : decode cX3_isFoodInStation 14 = .ok (.iconst 3, 1) := by decide +kernel
theorem dX3_isFoodInStation_15 : decode cX3_isFoodInStation 15 = .ok (.if_icmp .ge 7, 3) := by decide +kernel
theorem dX3_isFoodInStation_18 : decode cX3_isFoodInStation 18 = .ok (.iconst 1, 1) := by decide +kernel
theorem dX3_isFoodInStation_19 : decode cX3_isFoodInStation 19 = .ok (.goto 4, 3) := by decide +kernel
theorem dX3_isFoodInStation_22 : decode cX3_isFoodInStation 22 = .ok (.iconst 0, 1) := by decide +kernel
theorem dX3_isFoodInStation_23 : decode cX3_isFoodInStation 23 = .ok (.ireturn, 1) := by decide +kernel
theorem dX4_init_0 : decode cX4_init 0 = .ok (.aload_n 0, 1) := by decide +kernel
theorem dX4_init_1 : decode cX4_init 1 = .ok (.invokespecial 1, 3) := by decide +kernel
theorem dX4_init_4 : decode cX4_init 4 = .ok (.aload_n 0, 1) := by decide +kernel
theorem dX4_init_5 : decode cX4_init 5 = .ok (.iconst 0, 1) := by decide +kernel
theorem dX4_init_6 : decode cX4_init 6 = .ok (.putfield 7, 3) := by decide +kernel
theorem dX4_init_9 : decode cX4_init 9 = .ok (.aload_n 0, 1) := by decide +kernel
theorem dX4_init_10 : decode cX4_init 10 = .ok (.iconst 0, 1) := by decide +kernel
theorem dX4_init_11 : decode cX4_init 11 = .ok (.putfield 13, 3) := by decide +kernel
theorem dX4_init_14 : decode cX4_init 14 = .ok (.aload_n 0, 1) := by decide +kernel
theorem dX4_init_15 : decode cX4_init 15 = .ok (.iconst 0, 1) := by decide +kernel
theorem dX4_init_16 : decode cX4_init 16 = .ok (.putfield 16, 3) := by decide +kernel
theorem dX4_init_19 : decode cX4_init 19 = .ok (.aload_n 0, 1) := by decide +kernel
theorem dX4_init_20 : decode cX4_init 20 = .ok (.iload_n 1, 1) := by decide +kernel
theorem dX4_init_21 : decode cX4_init 21 = .ok (.putfield 19, 3) := by decide +kernel
theorem dX4_init_24 : decode cX4_init 24 = .ok (.return_, 1) := by decide +kernel
theorem dX4_need_0 : decode cX4_need 0 = .ok (.aload_n 0, 1) := by decide +kernel
theorem dX4_need_1 : decode cX4_need 1 = .ok (.getfield 7, 3) := by decide +kernel
theorem dX4_need_4 : decode cX4_need 4 = .ok (.aload_n 0, 1) := by decide +kernel
theorem dX4_need_5 : decode cX4_need 5 = .ok (.getfield 19, 3) := by decide +kernel
theorem dX4_need_8 : decode cX4_need 8 = .ok (.imul, 1) := by decide +kernel
theorem dX4_need_9 : decode cX4_need 9 = .ok (.ireturn, 1) := by decide +kernel
set_option maxRecDepth 20000 in
theorem ggX5_init_Jx4a65c_init_da8c8 : GoodIn wsX5_init wsJx4a65c_init_da8c8 := goodIn_r _ [25, 26, 27, 28, 29, 30, 31, 32, 33, 34, 35, 36, 37, 2, 3, 112, 113, 114] (by decide +kernel) (by decide +kernel)
set_option maxRecDepth 20000 in
theorem gX5_init_Jx4a65c_init_da8c8 : GoodIn wsX5_init (wsJx4a65c_init_da8c8) := ggX5_init_Jx4a65c_init_da8c8
set_option maxRecDepth 20000 in
theorem ggX5_init_X0_init : GoodIn wsX5_init wsX0_init := goodIn_r _ [39, 40, 2, 3, 41, 42, 122, 123] (by decide +kernel) (by decide +kernel)
set_option maxRecDepth 20000 in
theorem gX5_init_X0_init_n27 : GoodIn wsX5_init (wsX0_init) := ggX5_init_X0_init
set_option maxRecDepth 20000 in
theorem ggX5_init_X1_init : GoodIn wsX5_init wsX1_init := goodIn_r _ [45, 46, 2, 3, 47, 12, 13, 48, 49, 50, 38, 39, 40, 41, 42, 122, 123, 124, 125, 126] (by decide +kernel) (by decide +kernel)
set_option maxRecDepth 20000 in
theorem gX5_init_X1_init : GoodIn wsX5_init (wsX1_init) := ggX5_init_X1_init
set_option maxRecDepth 20000 in
theorem ggX5_init_Jx4a65c_add_9ea2d : GoodIn wsX5_init wsJx4a65c_add_9ea2d := goodIn_r _ [54, 55, 56, 27, 57, 58, 59, 60, 6, 61, 62, 63, 64, 65, 66, 67, 68, 69, 26, 70, 71, 72, 73, 74, 75, 76, 77, 78, 79, 80, 81, 82, 83, 84, 85, 86, 87, 88, 89, 90, 91, 92, 93, 94, 95, 96, 97, 98, 99, 100, 101, 102, 103, 112, 113, 114] (by decide +kernel) (by decide +kernel)
set_option maxRecDepth 20000 in
theorem gX5_init_Jx4a65c_add_9ea2d : GoodIn wsX5_init (wsV RX5 44 RJx4a65c yJx4a65c_add_9ea2d wsJx4a65c_add_9ea2d) := goodIn_app (goodIn_of _ (by decide +kernel)) ggX5_init_Jx4a65c_add_9ea2d
set_option maxRecDepth 20000 in
theorem ggX5_init_X4_init : GoodIn wsX5_init wsX4_init := goodIn_r _ [106, 107, 2, 3, 108, 109, 110, 111, 127, 128, 129, 130] (by decide +kernel) (by decide +kernel)
set_option maxRecDepth 20000 in
theorem gX5_init_X4_init : GoodIn wsX5_init (wsX4_init) := ggX5_init_X4_init
theorem dX5_init_0 : decode cX5_init 0 = .ok (.aload_n 0, 1) := by decide +kernel
theorem dX5_init_1 : decode cX5_init 1 = .ok (.invokespecial 1, 3) := by decide +kernel
theorem dX5_init_4 : decode cX5_init 4 = .ok (.aload_n 0, 1) := by decide +kernel
theorem dX5_init_5 : decode cX5_init 5 = .ok (.new 7, 3) := by decide +kernel
theorem dX5_init_8 : decode cX5_init 8 = .ok (.dup, 1) := by decide +kernel
theorem dX5_init_9 : decode cX5_init 9 = .ok (.invokespecial 9, 3) := by decide +kernel
theorem dX5_init_12 : decode cX5_init 12 = .ok (.putfield 10, 3) := by decide +kernel
theorem dX5_init_15 : decode cX5_init 15 = .ok (.aload_n 0, 1) := by decide +kernel
theorem dX5_init_16 : decode cX5_init 16 = .ok (.new 7, 3) := by decide +kernel
theorem dX5_init_19 : decode cX5_init 19 = .ok (.dup, 1) := by decide +kernel
theorem dX5_init_20 : decode cX5_init 20 = .ok (.invokespecial 9, 3) := by decide +kernel
theorem dX5_init_23 : decode cX5_init 23 = .ok (.putfield 16, 3) := by decide +kernel
theorem dX5_init_26 : decode cX5_init 26 = .ok (.aload_n 0, 1) := by decide +kernel
theorem dX5_init_27 : decode cX5_init 27 = .ok (.new 7, 3) := by decide +kernel
theorem dX5_init_30 : decode cX5_init 30 = .ok (.dup, 1) := by decide +kernel
theorem dX5_init_31 : decode cX5_init 31 = .ok (.invokespecial 9, 3) := by decide +kernel
theorem dX5_init_34 : decode cX5_init 34 = .ok (.putfield 19, 3) := by decide +kernel
theorem dX5_init_37 : decode cX5_init 37 = .ok (.aload_n 0, 1) := by decide +kernel
theorem dX5_init_38 : decode cX5_init 38 = .ok (.new 7, 3) := by decide +kernel
theorem dX5_init_41 : decode cX5_init 41 = .ok (.dup, 1) := by decide +kernel
theorem dX5_init_42 : decode cX5_init 42 = .ok (.invokespecial 9, 3) := by decide +kernel
theorem dX5_init_45 : decode cX5_init 45 = .ok (.putfield 22, 3) := by decide +kernel
theorem dX5_init_48 : decode cX5_init 48 = .ok (.aload_n 0, 1) := by decide +kernel
theorem dX5_init_49 : decode cX5_init 49 = .ok (.new 25, 3) := by decide +kernel
theorem dX5_init_52 : decode cX5_init 52 = .ok (.dup, 1) := by decide +kernel
theorem dX5_init_53 : decode cX5_init 53 = .ok (.invokespecial 27, 3) := by decide +kernel
theorem dX5_init_56 : decode cX5_init 56 = .ok (.putfield 28, 3) := by decide +kernel
theorem dX5_init_59 : decode cX5_init 59 = .ok (.aload_n 0, 1) := by decide +kernel
theorem dX5_init_60 : decode cX5_init 60 = .ok (.iconst 0, 1) := by decide +kernel
theorem dX5_init_61 : decode cX5_init 61 = .ok (.putfield 32, 3) := by decide +kernel
theorem dX5_init_64 : decode cX5_init 64 = .ok (.aload_n 0, 1) := by decide +kernel
theorem dX5_init_65 : decode cX5_init 65 = .ok (.iconst 0, 1) := by decide +kernel
theorem dX5_init_66 : decode cX5_init 66 = .ok (.putfield 36, 3) := by decide +kernel
theorem dX5_init_69 : decode cX5_init 69 = .ok (.iconst 0, 1) := by decide +kernel
theorem dX5_init_70 : decode cX5_init 70 = .ok (.istore_n 1, 1) := by decide +kernel
theorem dX5_init_71 : decode cX5_init 71 = .ok (.iload_n 1, 1) := by decide +kernel
theorem dX5_init_72 : decode cX5_init 72 = .ok (.iconst 4, 1) := by decide +kernel
theorem dX5_init_73 : decode cX5_init 73 = .ok (.if_icmp .ge 34, 3) := by decide +kernel
theorem dX5_init_76 : decode cX5_init 76 = .ok (.aload_n 0, 1) := by decide +kernel
theorem dX5_init_77 : decode cX5_init 77 = .ok (.getfield 10, 3) := by decide +kernel
theorem dX5_init_80 : decode cX5_init 80 = .ok (.new 39, 3) := by decide +kernel
theorem dX5_init_83 : decode cX5_init 83 = .ok (.dup, 1) := by decide +kernel
theorem dX5_init_84 : decode cX5_init 84 = .ok (.iload_n 1, 1) := by decide +kernel
theorem dX5_init_85 : decode cX5_init 85 = .ok (.iload_n 1, 1) := by decide +kernel
theorem dX5_init_86 : decode cX5_init 86 = .ok (.ifCond .ne 7, 3) := by decide +kernel
theorem dX5_init_89 : decode cX5_init 89 = .ok (.iconst 1, 1) := by decide +kernel
theorem dX5_init_90 : decode cX5_init 90 = .ok (.goto 4, 3) := by decide +kernel
theorem dX5_init_93 : decode cX5_init 93 = .ok (.iconst 0, 1) := by decide +kernel
theorem dX5_init_94 : decode cX5_init 94 = .ok (.invokespecial 41, 3) := by decide +kernel
theorem dX5_init_97 : decode cX5_init 97 = .ok (.invokevirtual 44, 3) := by decide +kernel
theorem dX5_init_100 : decode cX5_init 100 = .ok (.pop, 1) := by decide +kernel
theorem dX5_init_101 : decode cX5_init 101 = .ok (.iinc 1 1, 3) := by decide +kernel
theorem dX5_init_104 : decode cX5_init 104 = .ok (.goto (-33), 3) := by decide +kernel
theorem dX5_init_107 : decode cX5_init 107 = .ok (.iconst 0, 1) := by decide +kernel
theorem dX5_init_108 : decode cX5_init 108 = .ok (.istore_n 1, 1) := by decide +kernel
theorem dX5_init_109 : decode cX5_init 109 = .ok (.iload_n 1, 1) := by decide +kernel
theorem dX5_init_110 : decode cX5_init 110 = .ok (.iconst 3, 1) := by decide +kernel
theorem dX5_init_111 : decode cX5_init 111 = .ok (.if_icmp .ge 27, 3) := by decide +kernel
theorem dX5_init_114 : decode cX5_init 114 = .ok (.aload_n 0, 1) := by decide +kernel
theorem dX5_init_115 : decode cX5_init 115 = .ok (.getfield 19, 3) := by decide +kernel
theorem dX5_init_118 : decode cX5_init 118 = .ok (.new 48, 3) := by decide +kernel
theorem dX5_init_121 : decode cX5_init 121 = .ok (.dup, 1) := by decide +kernel
theorem dX5_init_122 : decode cX5_init 122 = .ok (.iconst 2, 1) := by decide +kernel
theorem dX5_init_123 : decode cX5_init 123 = .ok (.iload_n 1, 1) := by decide +kernel
theorem dX5_init_124 : decode cX5_init 124 = .ok (.iadd, 1) := by decide +kernel
theorem dX5_init_125 : decode cX5_init 125 = .ok (.invokespecial 50, 3) := by decide +kernel
theorem dX5_init_128 : decode cX5_init 128 = .ok (.invokevirtual 44, 3) := by decide +kernel
theorem dX5_init_131 : decode cX5_init 131 = .ok (.pop, 1) := by decide +kernel
theorem dX5_init_132 : decode cX5_init 132 = .ok (.iinc 1 1, 3) := by decide +kernel
theorem dX5_init_135 : decode cX5_init 135 = .ok (.goto (-26), 3) := by decide +kernel
theorem dX5_init_138 : decode cX5_init 138 = .ok (.return_, 1) := by decide +kernel
set_option maxRecDepth 20000 in
theorem ggX5_setCut_X5_requireDepot : GoodIn wsX5_setCut wsX5_requireDepot := goodIn_ca (goodIn_r _ [9, 1, 10, 11, 12, 13, 14, 15, 16, 17, 8, 18, 19, 20, 57, 58, 59, 60, 61, 62, 63, 67, 68, 69] (by decide +kernel) (by decide +kernel)) (goodIn_sub (fun _ h => List.mem_cons_of_mem _ (List.mem_append_left _ (List.mem_append_right _ h))) (by decide +kernel))
set_option maxRecDepth 20000 in
theorem gX5_setCut_X5_requireDepot : GoodIn wsX5_setCut (wsV RX5 53 RX5 yX5_requireDepot wsX5_requireDepot) := goodIn_app (goodIn_of _ (by decide +kernel)) ggX5_setCut_X5_requireDepot
set_option maxRecDepth 20000 in
theorem ggX5_setCut_X5_requireDays : GoodIn wsX5_setCut wsX5_requireDays := goodIn_ca (goodIn_r _ [23, 24, 25, 8, 26, 27, 28] (by decide +kernel) (by decide +kernel)) (goodIn_sub (fun _ h => List.mem_cons_of_mem _ (List.mem_append_right _ h)) (by decide +kernel))
set_option maxRecDepth 20000 in
theorem gX5_setCut_X5_requireDays : GoodIn wsX5_setCut (va_wsS RX5 56 yX5_requireDays wsX5_requireDays) := goodIn_app (goodIn_of _ (by decide +kernel)) ggX5_setCut_X5_requireDays
set_option maxRecDepth 20000 in
theorem ggX5_setCut_Jx4a65c_get_915e3 : GoodIn wsX5_setCut wsJx4a65c_get_915e3 := goodIn_r _ [32, 15, 33, 34, 35, 36, 37, 38, 39, 40, 41, 42, 43, 13, 44, 45, 67, 68, 69] (by decide +kernel) (by decide +kernel)
set_option maxRecDepth 20000 in
theorem gX5_setCut_Jx4a65c_get_915e3 : GoodIn wsX5_setCut (wsV RX5 60 RJx4a65c yJx4a65c_get_915e3 wsJx4a65c_get_915e3) := goodIn_app (goodIn_of _ (by decide +kernel)) ggX5_setCut_Jx4a65c_get_915e3
set_option maxRecDepth 20000 in
theorem ggX5_setCut_X0_become : GoodIn wsX5_setCut wsX0_become := goodIn_r _ [50, 51, 52, 70, 71] (by decide +kernel) (by decide +kernel)
set_option maxRecDepth 20000 in
theorem gX5_setCut_X0_become : GoodIn wsX5_setCut (wsV RX5 67 RX0 yX0_become wsX0_become) := goodIn_app (goodIn_of _ (by decide +kernel)) ggX5_setCut_X0_become
set_option maxRecDepth 20000 in
theorem ggX5_setCut_X0_include : GoodIn wsX5_setCut wsX0_include := goodIn_r _ [56, 51, 52, 70, 71] (by decide +kernel) (by decide +kernel)
set_option maxRecDepth 20000 in
theorem gX5_setCut_X0_include : GoodIn wsX5_setCut (wsV RX5 70 RX0 yX0_include wsX0_include) := goodIn_app (goodIn_of _ (by decide +kernel)) ggX5_setCut_X0_include
theorem dX5_setCut_0 : decode cX5_setCut 0 = .ok (.aload_n 0, 1) := by decide +kernel
theorem dX5_setCut_1 : decode cX5_setCut 1 = .ok (.iload_n 1, 1) := by decide +kernel
theorem dX5_setCut_2 : decode cX5_setCut 2 = .ok (.invokevirtual 53, 3) := by decide +kernel
theorem dX5_setCut_5 : decode cX5_setCut 5 = .ok (.iload_n 2, 1) := by decide +kernel
theorem dX5_setCut_6 : decode cX5_setCut 6 = .ok (.iload_n 3, 1) := by decide +kernel
theorem dX5_setCut_7 : decode cX5_setCut 7 = .ok (.invokestatic 56, 3) := by decide +kernel
theorem dX5_setCut_10 : decode cX5_setCut 10 = .ok (.aload_n 0, 1) := by decide +kernel
theorem dX5_setCut_11 : decode cX5_setCut 11 = .ok (.getfield 10, 3) := by decide +kernel
theorem dX5_setCut_14 : decode cX5_setCut 14 = .ok (.iload_n 1, 1) := by decide +kernel
theorem dX5_setCut_15 : decode cX5_setCut 15 = .ok (.invokevirtual 60, 3) := by decide +kernel
theorem dX5_setCut_18 : decode cX5_setCut 18 = .ok (.checkcast 39, 3) := by decide +kernel
theorem dX5_setCut_21 : decode cX5_setCut 21 = .ok (.getfield 64, 3) := by decide +kernel
theorem dX5_setCut_24 : decode cX5_setCut 24 = .ok (.astore 4, 2) := by decide +kernel
theorem dX5_setCut_26 : decode cX5_setCut 26 = .ok (.aload 4, 2) := by decide +kernel
theorem dX5_setCut_28 : decode cX5_setCut 28 = .ok (.iload_n 2, 1) := by decide +kernel
theorem dX5_setCut_29 : decode cX5_setCut 29 = .ok (.iload_n 3, 1) := by decide +kernel
theorem dX5_setCut_30 : decode cX5_setCut 30 = .ok (.invokevirtual 67, 3) := by decide +kernel
theorem dX5_setCut_33 : decode cX5_setCut 33 = .ok (.aload 4, 2) := by decide +kernel
theorem dX5_setCut_35 : decode cX5_setCut 35 = .ok (.aload_n 0, 1) := by decide +kernel
theorem dX5_setCut_36 : decode cX5_setCut 36 = .ok (.getfield 32, 3) := by decide +kernel
theorem dX5_setCut_39 : decode cX5_setCut 39 = .ok (.invokevirtual 70, 3) := by decide +kernel
theorem dX5_setCut_42 : decode cX5_setCut 42 = .ok (.ireturn, 1) := by decide +kernel
set_option maxRecDepth 20000 in
theorem ggX5_setWarm_X5_requireDepot : GoodIn wsX5_setWarm wsX5_requireDepot := goodIn_ca (goodIn_r _ [8, 1, 9, 10, 11, 12, 13, 14, 15, 16, 7, 17, 18, 19, 37, 38, 39, 40, 41, 42, 43, 47, 48, 49] (by decide +kernel) (by decide +kernel)) (goodIn_sub (fun _ h => List.mem_cons_of_mem _ (List.mem_append_right _ h)) (by decide +kernel))
set_option maxRecDepth 20000 in
theorem gX5_setWarm_X5_requireDepot : GoodIn wsX5_setWarm (wsV RX5 53 RX5 yX5_requireDepot wsX5_requireDepot) := goodIn_app (goodIn_of _ (by decide +kernel)) ggX5_setWarm_X5_requireDepot
set_option maxRecDepth 20000 in
theorem ggX5_setWarm_Jx4a65c_get_915e3 : GoodIn wsX5_setWarm wsJx4a65c_get_915e3 := goodIn_r _ [23, 14, 24, 25, 26, 27, 28, 29, 30, 31, 32, 33, 34, 12, 35, 36, 47, 48, 49] (by decide +kernel) (by decide +kernel)
set_option maxRecDepth 20000 in
theorem gX5_setWarm_Jx4a65c_get_915e3 : GoodIn wsX5_setWarm (wsV RX5 60 RJx4a65c yJx4a65c_get_915e3 wsJx4a65c_get_915e3) := goodIn_app (goodIn_of _ (by decide +kernel)) ggX5_setWarm_Jx4a65c_get_915e3
theorem dX5_setWarm_0 : decode cX5_setWarm 0 = .ok (.aload_n 0, 1) := by decide +kernel
theorem dX5_setWarm_1 : decode cX5_setWarm 1 = .ok (.iload_n 1, 1) := by decide +kernel
theorem dX5_setWarm_2 : decode cX5_setWarm 2 = .ok (.invokevirtual 53, 3) := by decide +kernel
theorem dX5_setWarm_5 : decode cX5_setWarm 5 = .ok (.aload_n 0, 1) := by decide +kernel
theorem dX5_setWarm_6 : decode cX5_setWarm 6 = .ok (.getfield 10, 3) := by decide +kernel
theorem dX5_setWarm_9 : decode cX5_setWarm 9 = .ok (.iload_n 1, 1) := by decide +kernel
theorem dX5_setWarm_10 : decode cX5_setWarm 10 = .ok (.invokevirtual 60, 3) := by decide +kernel
theorem dX5_setWarm_13 : decode cX5_setWarm 13 = .ok (.checkcast 39, 3) := by decide +kernel
theorem dX5_setWarm_16 : decode cX5_setWarm 16 = .ok (.astore_n 3, 1) := by decide +kernel
theorem dX5_setWarm_17 : decode cX5_setWarm 17 = .ok (.aload_n 3, 1) := by decide +kernel
theorem dX5_setWarm_18 : decode cX5_setWarm 18 = .ok (.getfield 74, 3) := by decide +kernel
theorem dX5_setWarm_21 : decode cX5_setWarm 21 = .ok (.istore 4, 2) := by decide +kernel
theorem dX5_setWarm_23 : decode cX5_setWarm 23 = .ok (.aload_n 3, 1) := by decide +kernel
theorem dX5_setWarm_24 : decode cX5_setWarm 24 = .ok (.iload_n 2, 1) := by decide +kernel
theorem dX5_setWarm_25 : decode cX5_setWarm 25 = .ok (.putfield 74, 3) := by decide +kernel
theorem dX5_setWarm_28 : decode cX5_setWarm 28 = .ok (.iload 4, 2) := by decide +kernel
theorem dX5_setWarm_30 : decode cX5_setWarm 30 = .ok (.ireturn, 1) := by decide +kernel
set_option maxRecDepth 20000 in
theorem ggX5_setFrost_X5_requireDays : GoodIn wsX5_setFrost wsX5_requireDays := goodIn_ca (goodIn_r _ [6, 7, 8, 5, 9, 10, 11] (by decide +kernel) (by decide +kernel)) (goodIn_sub (fun _ h => List.mem_cons_of_mem _ (List.mem_append_right _ h)) (by decide +kernel))
set_option maxRecDepth 20000 in
theorem gX5_setFrost_X5_requireDays : GoodIn wsX5_setFrost (va_wsS RX5 56 yX5_requireDays wsX5_requireDays) := goodIn_app (goodIn_of _ (by decide +kernel)) ggX5_setFrost_X5_requireDays
set_option maxRecDepth 20000 in
theorem ggX5_setFrost_X0_become : GoodIn wsX5_setFrost wsX0_become := goodIn_r _ [16, 17, 18, 30, 31] (by decide +kernel) (by decide +kernel)
set_option maxRecDepth 20000 in
theorem gX5_setFrost_X0_become : GoodIn wsX5_setFrost (wsV RX5 67 RX0 yX0_become wsX0_become) := goodIn_app (goodIn_of _ (by decide +kernel)) ggX5_setFrost_X0_become
set_option maxRecDepth 20000 in
theorem ggX5_setFrost_X0_include : GoodIn wsX5_setFrost wsX0_include := goodIn_r _ [22, 17, 18, 30, 31] (by decide +kernel) (by decide +kernel)
set_option maxRecDepth 20000 in
theorem gX5_setFrost_X0_include : GoodIn wsX5_setFrost (wsV RX5 70 RX0 yX0_include wsX0_include) := goodIn_app (goodIn_of _ (by decide +kernel)) ggX5_setFrost_X0_include
theorem dX5_setFrost_0 : decode cX5_setFrost 0 = .ok (.iload_n 1, 1) := by decide +kernel
theorem dX5_setFrost_1 : decode cX5_setFrost 1 = .ok (.iload_n 2, 1) := by decide +kernel
theorem dX5_setFrost_2 : decode cX5_setFrost 2 = .ok (.invokestatic 56, 3) := by decide +kernel
theorem dX5_setFrost_5 : decode cX5_setFrost 5 = .ok (.aload_n 0, 1) := by decide +kernel
theorem dX5_setFrost_6 : decode cX5_setFrost 6 = .ok (.getfield 28, 3) := by decide +kernel
theorem dX5_setFrost_9 : decode cX5_setFrost 9 = .ok (.iload_n 1, 1) := by decide +kernel
theorem dX5_setFrost_10 : decode cX5_setFrost 10 = .ok (.iload_n 2, 1) := by decide +kernel
theorem dX5_setFrost_11 : decode cX5_setFrost 11 = .ok (.invokevirtual 67, 3) := by decide +kernel
theorem dX5_setFrost_14 : decode cX5_setFrost 14 = .ok (.aload_n 0, 1) := by decide +kernel
theorem dX5_setFrost_15 : decode cX5_setFrost 15 = .ok (.getfield 28, 3) := by decide +kernel
theorem dX5_setFrost_18 : decode cX5_setFrost 18 = .ok (.aload_n 0, 1) := by decide +kernel
theorem dX5_setFrost_19 : decode cX5_setFrost 19 = .ok (.getfield 32, 3) := by decide +kernel
theorem dX5_setFrost_22 : decode cX5_setFrost 22 = .ok (.invokevirtual 70, 3) := by decide +kernel
theorem dX5_setFrost_25 : decode cX5_setFrost 25 = .ok (.ireturn, 1) := by decide +kernel
set_option maxRecDepth 20000 in
theorem ggX5_fill_X5_requireDepot : GoodIn wsX5_fill wsX5_requireDepot := goodIn_ca (goodIn_r _ [11, 5, 12, 13, 14, 15, 16, 17, 18, 19, 10, 20, 21, 22, 148, 149, 150, 151, 152, 153, 154, 155, 156, 157] (by decide +kernel) (by decide +kernel)) (goodIn_sub (fun _ h => List.mem_cons_of_mem _ (List.mem_append_left _ (List.mem_append_left _ (List.mem_append_right _ h)))) (by decide +kernel))
set_option maxRecDepth 20000 in
theorem gX5_fill_X5_requireDepot : GoodIn wsX5_fill (wsV RX5 53 RX5 yX5_requireDepot wsX5_requireDepot) := goodIn_app (goodIn_of _ (by decide +kernel)) ggX5_fill_X5_requireDepot
set_option maxRecDepth 20000 in
theorem ggX5_fill_X5_requireGood : GoodIn wsX5_fill wsX5_requireGood := goodIn_ca (goodIn_r _ [26, 18, 19, 10, 20, 21, 22] (by decide +kernel) (by decide +kernel)) (goodIn_sub (fun _ h => List.mem_cons_of_mem _ (List.mem_append_left _ (List.mem_append_left _ (List.mem_append_right _ h)))) (by decide +kernel))
set_option maxRecDepth 20000 in
theorem gX5_fill_X5_requireGood : GoodIn wsX5_fill (wsV RX5 78 RX5 yX5_requireGood wsX5_requireGood) := goodIn_app (goodIn_of _ (by decide +kernel)) ggX5_fill_X5_requireGood
set_option maxRecDepth 20000 in
theorem ggX5_fill_X5_requireRange : GoodIn wsX5_fill wsX5_requireRange := goodIn_ca (goodIn_r _ [29, 30, 31] (by decide +kernel) (by decide +kernel)) (goodIn_sub (fun _ h => List.mem_cons_of_mem _ (List.mem_append_left _ (List.mem_append_right _ h))) (by decide +kernel))
set_option maxRecDepth 20000 in
theorem gX5_fill_X5_requireRange : GoodIn wsX5_fill (va_wsS RX5 81 yX5_requireRange wsX5_requireRange) := goodIn_app (goodIn_of _ (by decide +kernel)) ggX5_fill_X5_requireRange
set_option maxRecDepth 20000 in
theorem ggX5_fill_X5_requireRoomForLot : GoodIn wsX5_fill wsX5_requireRoomForLot := goodIn_ca (goodIn_r _ [35, 36, 37, 4, 12, 13, 14, 15, 16, 17, 148, 149, 150, 151, 152, 153, 154, 155, 156, 157] (by decide +kernel) (by decide +kernel)) (goodIn_sub (fun _ h => List.mem_cons_of_mem _ (List.mem_append_right _ h)) (by decide +kernel))
set_option maxRecDepth 20000 in
theorem gX5_fill_X5_requireRoomForLot : GoodIn wsX5_fill (wsV RX5 85 RX5 yX5_requireRoomForLot wsX5_requireRoomForLot) := goodIn_app (goodIn_of _ (by decide +kernel)) ggX5_fill_X5_requireRoomForLot
set_option maxRecDepth 20000 in
theorem ggX5_fill_Jx4a65c_size_8abf5 : GoodIn wsX5_fill wsJx4a65c_size_8abf5 := goodIn_r _ [16, 17, 155, 156, 157] (by decide +kernel) (by decide +kernel)
set_option maxRecDepth 20000 in
theorem gX5_fill_Jx4a65c_size_8abf5 : GoodIn wsX5_fill (wsV RX5 90 RJx4a65c yJx4a65c_size_8abf5 wsJx4a65c_size_8abf5) := goodIn_app (goodIn_of _ (by decide +kernel)) ggX5_fill_Jx4a65c_size_8abf5
set_option maxRecDepth 20000 in
theorem ggX5_fill_Jx4a65c_get_915e3 : GoodIn wsX5_fill wsJx4a65c_get_915e3 := goodIn_r _ [41, 17, 42, 43, 44, 45, 46, 47, 48, 49, 50, 51, 52, 15, 53, 54, 155, 156, 157] (by decide +kernel) (by decide +kernel)
set_option maxRecDepth 20000 in
theorem gX5_fill_Jx4a65c_get_915e3 : GoodIn wsX5_fill (wsV RX5 60 RJx4a65c yJx4a65c_get_915e3 wsJx4a65c_get_915e3) := goodIn_app (goodIn_of _ (by decide +kernel)) ggX5_fill_Jx4a65c_get_915e3
set_option maxRecDepth 20000 in
theorem ggX5_fill_X3_init : GoodIn wsX5_fill wsX3_init := goodIn_r _ [57, 58, 59, 60, 61, 62, 63, 64, 65, 143, 144, 145, 146, 147] (by decide +kernel) (by decide +kernel)
set_option maxRecDepth 20000 in
theorem gX5_fill_X3_init : GoodIn wsX5_fill (wsX3_init) := ggX5_fill_X3_init
set_option maxRecDepth 20000 in
theorem ggX5_fill_X5_addLot : GoodIn wsX5_fill wsX5_addLot := goodIn_r _ [69, 4, 70, 71, 72, 73, 15, 74, 75, 76, 54, 17, 77, 78, 79, 80, 81, 82, 83, 84, 85, 86, 87, 88, 89, 90, 91, 92, 93, 94, 95, 96, 97, 98, 99, 100, 101, 102, 103, 104, 105, 106, 107, 108, 109, 110, 111, 112, 113, 114, 115, 116, 117, 118, 119, 120, 121, 122, 123, 124, 125, 126, 10, 127, 128, 129, 130, 131, 132, 133, 134, 12, 13, 14, 16, 135, 136, 137, 138, 59, 60, 139, 140, 141, 142, 148, 149, 150, 151, 152, 153, 154, 143, 144, 145, 146, 147, 155, 156, 157, 158, 159, 160, 161] (by decide +kernel) (by decide +kernel)
set_option maxRecDepth 20000 in
theorem gX5_fill_X5_addLot : GoodIn wsX5_fill (wsV RX5 97 RX5 yX5_addLot wsX5_addLot) := goodIn_app (goodIn_of _ (by decide +kernel)) ggX5_fill_X5_addLot
theorem dX5_fill_0 : decode cX5_fill 0 = .ok (.aload_n 0, 1) := by decide +kernel
theorem dX5_fill_1 : decode cX5_fill 1 = .ok (.iload_n 1, 1) := by decide +kernel
theorem dX5_fill_2 : decode cX5_fill 2 = .ok (.invokevirtual 53, 3) := by decide +kernel
theorem dX5_fill_5 : decode cX5_fill 5 = .ok (.aload_n 0, 1) := by decide +kernel
theorem dX5_fill_6 : decode cX5_fill 6 = .ok (.iload_n 2, 1) := by decide +kernel
theorem dX5_fill_7 : decode cX5_fill 7 = .ok (.invokevirtual 78, 3) := by decide +kernel
theorem dX5_fill_10 : decode cX5_fill 10 = .ok (.iload_n 3, 1) := by decide +kernel
theorem dX5_fill_11 : decode cX5_fill 11 = .ok (.iconst 1, 1) := by decide +kernel
theorem dX5_fill_12 : decode cX5_fill 12 = .ok (.sipush 1000, 3) := by decide +kernel
theorem dX5_fill_15 : decode cX5_fill 15 = .ok (.invokestatic 81, 3) := by decide +kernel
theorem dX5_fill_18 : decode cX5_fill 18 = .ok (.iload 4, 2) := by decide +kernel
theorem dX5_fill_20 : decode cX5_fill 20 = .ok (.iconst 0, 1) := by decide +kernel
theorem dX5_fill_21 : decode cX5_fill 21 = .ok (.sipush 1000, 3) := by decide +kernel
theorem dX5_fill_24 : decode cX5_fill 24 = .ok (.invokestatic 81, 3) := by decide +kernel
theorem dX5_fill_27 : decode cX5_fill 27 = .ok (.aload_n 0, 1) := by decide +kernel
theorem dX5_fill_28 : decode cX5_fill 28 = .ok (.invokevirtual 85, 3) := by decide +kernel
theorem dX5_fill_31 : decode cX5_fill 31 = .ok (.aload_n 0, 1) := by decide +kernel
theorem dX5_fill_32 : decode cX5_fill 32 = .ok (.new 88, 3) := by decide +kernel
theorem dX5_fill_35 : decode cX5_fill 35 = .ok (.dup, 1) := by decide +kernel
theorem dX5_fill_36 : decode cX5_fill 36 = .ok (.aload_n 0, 1) := by decide +kernel
theorem dX5_fill_37 : decode cX5_fill 37 = .ok (.getfield 16, 3) := by decide +kernel
theorem dX5_fill_40 : decode cX5_fill 40 = .ok (.invokevirtual 90, 3) := by decide +kernel
theorem dX5_fill_43 : decode cX5_fill 43 = .ok (.aload_n 0, 1) := by decide +kernel
theorem dX5_fill_44 : decode cX5_fill 44 = .ok (.getfield 10, 3) := by decide +kernel
theorem dX5_fill_47 : decode cX5_fill 47 = .ok (.iload_n 1, 1) := by decide +kernel
theorem dX5_fill_48 : decode cX5_fill 48 = .ok (.invokevirtual 60, 3) := by decide +kernel
theorem dX5_fill_51 : decode cX5_fill 51 = .ok (.checkcast 39, 3) := by decide +kernel
theorem dX5_fill_54 : decode cX5_fill 54 = .ok (.iload_n 2, 1) := by decide +kernel
theorem dX5_fill_55 : decode cX5_fill 55 = .ok (.iload 4, 2) := by decide +kernel
theorem dX5_fill_57 : decode cX5_fill 57 = .ok (.invokespecial 94, 3) := by decide +kernel
theorem dX5_fill_60 : decode cX5_fill 60 = .ok (.iload_n 3, 1) := by decide +kernel
theorem dX5_fill_61 : decode cX5_fill 61 = .ok (.iconst 0, 1) := by decide +kernel
theorem dX5_fill_62 : decode cX5_fill 62 = .ok (.invokevirtual 97, 3) := by decide +kernel
theorem dX5_fill_65 : decode cX5_fill 65 = .ok (.ireturn, 1) := by decide +kernel
set_option maxRecDepth 20000 in
theorem ggX5_move_X5_requireLot : GoodIn wsX5_move wsX5_requireLot := goodIn_ca (goodIn_r _ [20, 5, 21, 22, 23, 24, 25, 26, 27, 28, 19, 29, 30, 31, 160, 161, 162, 163, 164, 165, 166, 172, 173, 174] (by decide +kernel) (by decide +kernel)) (goodIn_sub (fun _ h => List.mem_cons_of_mem _ (List.mem_append_right _ h)) (by decide +kernel))
set_option maxRecDepth 20000 in
theorem gX5_move_X5_requireLot : GoodIn wsX5_move (wsV RX5 101 RX5 yX5_requireLot wsX5_requireLot) := goodIn_app (goodIn_of _ (by decide +kernel)) ggX5_move_X5_requireLot
set_option maxRecDepth 20000 in
theorem ggX5_move_X5_requireDepot : GoodIn wsX5_move wsX5_requireDepot := goodIn_ca (goodIn_r _ [35, 7, 21, 22, 23, 24, 25, 26, 27, 28, 19, 29, 30, 31, 160, 161, 162, 163, 164, 165, 166, 172, 173, 174] (by decide +kernel) (by decide +kernel)) (goodIn_sub (fun _ h => List.mem_cons_of_mem _ (List.mem_append_right _ h)) (by decide +kernel))
set_option maxRecDepth 20000 in
theorem gX5_move_X5_requireDepot : GoodIn wsX5_move (wsV RX5 53 RX5 yX5_requireDepot wsX5_requireDepot) := goodIn_app (goodIn_of _ (by decide +kernel)) ggX5_move_X5_requireDepot
set_option maxRecDepth 20000 in
theorem ggX5_move_Jx4a65c_get_915e3 : GoodIn wsX5_move wsJx4a65c_get_915e3 := goodIn_r _ [39, 26, 40, 41, 42, 43, 44, 45, 46, 47, 48, 49, 50, 24, 51, 52, 172, 173, 174] (by decide +kernel) (by decide +kernel)
set_option maxRecDepth 20000 in
theorem gX5_move_Jx4a65c_get_915e3 : GoodIn wsX5_move (wsV RX5 60 RJx4a65c yJx4a65c_get_915e3 wsJx4a65c_get_915e3) := goodIn_app (goodIn_of _ (by decide +kernel)) ggX5_move_Jx4a65c_get_915e3
set_option maxRecDepth 20000 in
theorem ggX5_move_X5_requireRange : GoodIn wsX5_move wsX5_requireRange := goodIn_ca (goodIn_r _ [55, 1, 2] (by decide +kernel) (by decide +kernel)) (goodIn_sub (fun _ h => List.mem_cons_of_mem _ (List.mem_append_left _ (List.mem_append_left _ (List.mem_append_right _ h)))) (by decide +kernel))
set_option maxRecDepth 20000 in
theorem gX5_move_X5_requireRange : GoodIn wsX5_move (va_wsS RX5 81 yX5_requireRange wsX5_requireRange) := goodIn_app (goodIn_of _ (by decide +kernel)) ggX5_move_X5_requireRange
set_option maxRecDepth 20000 in
theorem ggX5_move_X5_requireReached : GoodIn wsX5_move wsX5_requireReached := goodIn_ca (goodIn_r _ [59, 3, 4, 60, 61, 62, 63, 64, 65, 66, 67, 68, 175, 176, 177, 160, 161, 162, 163, 164, 165, 166, 178, 179] (by decide +kernel) (by decide +kernel)) (goodIn_sub (fun _ h => List.mem_cons_of_mem _ (List.mem_append_left _ (List.mem_append_right _ h))) (by decide +kernel))
set_option maxRecDepth 20000 in
theorem gX5_move_X5_requireReached : GoodIn wsX5_move (wsV RX5 115 RX5 yX5_requireReached wsX5_requireReached) := goodIn_app (goodIn_of _ (by decide +kernel)) ggX5_move_X5_requireReached
set_option maxRecDepth 20000 in
theorem ggX5_move_X5_requireRoomForLot : GoodIn wsX5_move wsX5_requireRoomForLot := goodIn_ca (goodIn_r _ [72, 3, 4, 5, 21, 22, 23, 24, 25, 26, 160, 161, 162, 163, 164, 165, 166, 172, 173, 174] (by decide +kernel) (by decide +kernel)) (goodIn_sub (fun _ h => List.mem_cons_of_mem _ (List.mem_append_left _ (List.mem_append_right _ h))) (by decide +kernel))
set_option maxRecDepth 20000 in
theorem gX5_move_X5_requireRoomForLot : GoodIn wsX5_move (wsV RX5 85 RX5 yX5_requireRoomForLot wsX5_requireRoomForLot) := goodIn_app (goodIn_of _ (by decide +kernel)) ggX5_move_X5_requireRoomForLot
set_option maxRecDepth 20000 in
theorem ggX5_move_X5_changeAmount : GoodIn wsX5_move wsX5_changeAmount := goodIn_r _ [76, 10, 77, 78, 79, 80, 81, 82, 21, 22, 23, 24, 25, 26, 83, 84, 85, 86, 87, 88, 89, 90, 91, 92, 93, 94, 95, 96, 97, 98, 52, 99, 100, 101, 102, 103, 104, 105, 106, 107, 108, 109, 110, 111, 112, 113, 114, 115, 116, 117, 118, 119, 120, 121, 122, 123, 124, 125, 126, 127, 128, 129, 130, 131, 132, 133, 134, 135, 136, 137, 138, 139, 140, 141, 142, 143, 144, 145, 167, 168, 169, 170, 171, 160, 161, 162, 163, 164, 165, 166, 180, 181, 182, 183, 172, 173, 174] (by decide +kernel) (by decide +kernel)
set_option maxRecDepth 20000 in
theorem gX5_move_X5_changeAmount : GoodIn wsX5_move (wsV RX5 127 RX5 yX5_changeAmount wsX5_changeAmount) := goodIn_app (goodIn_of _ (by decide +kernel)) ggX5_move_X5_changeAmount
set_option maxRecDepth 20000 in
theorem ggX5_move_Jx4a65c_size_8abf5 : GoodIn wsX5_move wsJx4a65c_size_8abf5 := goodIn_r _ [25, 26, 172, 173, 174] (by decide +kernel) (by decide +kernel)
set_option maxRecDepth 20000 in
theorem gX5_move_Jx4a65c_size_8abf5 : GoodIn wsX5_move (wsV RX5 90 RJx4a65c yJx4a65c_size_8abf5 wsJx4a65c_size_8abf5) := goodIn_app (goodIn_of _ (by decide +kernel)) ggX5_move_Jx4a65c_size_8abf5
set_option maxRecDepth 20000 in
theorem ggX5_move_X3_init : GoodIn wsX5_move wsX3_init := goodIn_r _ [148, 149, 87, 88, 150, 151, 152, 153, 154, 167, 168, 169, 170, 171] (by decide +kernel) (by decide +kernel)
set_option maxRecDepth 20000 in
theorem gX5_move_X3_init : GoodIn wsX5_move (wsX3_init) := ggX5_move_X3_init
set_option maxRecDepth 20000 in
theorem ggX5_move_X5_addLot : GoodIn wsX5_move wsX5_addLot := goodIn_r _ [158, 5, 159, 93, 94, 95, 24, 96, 97, 98, 52, 26, 99, 100, 101, 102, 103, 104, 105, 106, 107, 108, 109, 110, 111, 112, 113, 114, 115, 116, 117, 118, 119, 120, 121, 122, 123, 124, 125, 126, 127, 128, 129, 130, 131, 132, 133, 134, 135, 136, 137, 138, 139, 140, 141, 142, 143, 144, 145, 73, 74, 75, 19, 76, 10, 77, 78, 79, 80, 81, 82, 21, 22, 23, 25, 83, 84, 85, 86, 87, 88, 89, 90, 91, 92, 160, 161, 162, 163, 164, 165, 166, 167, 168, 169, 170, 171, 172, 173, 174, 180, 181, 182, 183] (by decide +kernel) (by decide +kernel)
set_option maxRecDepth 20000 in
theorem gX5_move_X5_addLot : GoodIn wsX5_move (wsV RX5 97 RX5 yX5_addLot wsX5_addLot) := goodIn_app (goodIn_of _ (by decide +kernel)) ggX5_move_X5_addLot
theorem dX5_move_0 : decode cX5_move 0 = .ok (.aload_n 0, 1) := by decide +kernel
theorem dX5_move_1 : decode cX5_move 1 = .ok (.iload_n 1, 1) := by decide +kernel
theorem dX5_move_2 : decode cX5_move 2 = .ok (.invokevirtual 101, 3) := by decide +kernel
theorem dX5_move_5 : decode cX5_move 5 = .ok (.aload_n 0, 1) := by decide +kernel
theorem dX5_move_6 : decode cX5_move 6 = .ok (.iload_n 2, 1) := by decide +kernel
theorem dX5_move_7 : decode cX5_move 7 = .ok (.invokevirtual 53, 3) := by decide +kernel
theorem dX5_move_10 : decode cX5_move 10 = .ok (.aload_n 0, 1) := by decide +kernel
theorem dX5_move_11 : decode cX5_move 11 = .ok (.getfield 16, 3) := by decide +kernel
theorem dX5_move_14 : decode cX5_move 14 = .ok (.iload_n 1, 1) := by decide +kernel
theorem dX5_move_15 : decode cX5_move 15 = .ok (.invokevirtual 60, 3) := by decide +kernel
theorem dX5_move_18 : decode cX5_move 18 = .ok (.checkcast 88, 3) := by decide +kernel
theorem dX5_move_21 : decode cX5_move 21 = .ok (.astore 4, 2) := by decide +kernel
theorem dX5_move_23 : decode cX5_move 23 = .ok (.aload_n 0, 1) := by decide +kernel
theorem dX5_move_24 : decode cX5_move 24 = .ok (.getfield 10, 3) := by decide +kernel
theorem dX5_move_27 : decode cX5_move 27 = .ok (.iload_n 2, 1) := by decide +kernel
theorem dX5_move_28 : decode cX5_move 28 = .ok (.invokevirtual 60, 3) := by decide +kernel
theorem dX5_move_31 : decode cX5_move 31 = .ok (.checkcast 39, 3) := by decide +kernel
theorem dX5_move_34 : decode cX5_move 34 = .ok (.astore 5, 2) := by decide +kernel
theorem dX5_move_36 : decode cX5_move 36 = .ok (.aload 4, 2) := by decide +kernel
theorem dX5_move_38 : decode cX5_move 38 = .ok (.getfield 104, 3) := by decide +kernel
theorem dX5_move_41 : decode cX5_move 41 = .ok (.aload 5, 2) := by decide +kernel
theorem dX5_move_43 : decode cX5_move 43 = .ok (.if_acmp .ne 13, 3) := by decide +kernel
theorem dX5_move_46 : decode cX5_move 46 = .ok (.new 108, 3) := by decide +kernel
theorem dX5_move_49 : decode cX5_move 49 = .ok (.dup, 1) := by decide +kernel
theorem dX5_move_50 : decode cX5_move 50 = .ok (.ldc 110, 2) := by decide +kernel
theorem dX5_move_52 : decode cX5_move 52 = .ok (.invokespecial 112, 3) := by decide +kernel
theorem dX5_move_55 : decode cX5_move 55 = .ok (.athrow, 1) := by decide +kernel
theorem dX5_move_56 : decode cX5_move 56 = .ok (.iload_n 3, 1) := by decide +kernel
theorem dX5_move_57 : decode cX5_move 57 = .ok (.iconst 1, 1) := by decide +kernel
theorem dX5_move_58 : decode cX5_move 58 = .ok (.sipush 1000, 3) := by decide +kernel
theorem dX5_move_61 : decode cX5_move 61 = .ok (.invokestatic 81, 3) := by decide +kernel
theorem dX5_move_64 : decode cX5_move 64 = .ok (.aload_n 0, 1) := by decide +kernel
theorem dX5_move_65 : decode cX5_move 65 = .ok (.aload 4, 2) := by decide +kernel
theorem dX5_move_67 : decode cX5_move 67 = .ok (.getfield 104, 3) := by decide +kernel
theorem dX5_move_70 : decode cX5_move 70 = .ok (.invokevirtual 115, 3) := by decide +kernel
theorem dX5_move_73 : decode cX5_move 73 = .ok (.aload_n 0, 1) := by decide +kernel
theorem dX5_move_74 : decode cX5_move 74 = .ok (.aload 5, 2) := by decide +kernel
theorem dX5_move_76 : decode cX5_move 76 = .ok (.invokevirtual 115, 3) := by decide +kernel
theorem dX5_move_79 : decode cX5_move 79 = .ok (.aload 4, 2) := by decide +kernel
theorem dX5_move_81 : decode cX5_move 81 = .ok (.getfield 119, 3) := by decide +kernel
theorem dX5_move_84 : decode cX5_move 84 = .ok (.iload_n 3, 1) := by decide +kernel
theorem dX5_move_85 : decode cX5_move 85 = .ok (.if_icmp .ge 13, 3) := by decide +kernel
theorem dX5_move_88 : decode cX5_move 88 = .ok (.new 122, 3) := by decide +kernel
theorem dX5_move_91 : decode cX5_move 91 = .ok (.dup, 1) := by decide +kernel
theorem dX5_move_92 : decode cX5_move 92 = .ok (.ldc 124, 2) := by decide +kernel
theorem dX5_move_94 : decode cX5_move 94 = .ok (.invokespecial 126, 3) := by decide +kernel
theorem dX5_move_97 : decode cX5_move 97 = .ok (.athrow, 1) := by decide +kernel
theorem dX5_move_98 : decode cX5_move 98 = .ok (.aload_n 0, 1) := by decide +kernel
theorem dX5_move_99 : decode cX5_move 99 = .ok (.invokevirtual 85, 3) := by decide +kernel
theorem dX5_move_102 : decode cX5_move 102 = .ok (.aload_n 0, 1) := by decide +kernel
theorem dX5_move_103 : decode cX5_move 103 = .ok (.aload 4, 2) := by decide +kernel
theorem dX5_move_105 : decode cX5_move 105 = .ok (.iload_n 3, 1) := by decide +kernel
theorem dX5_move_106 : decode cX5_move 106 = .ok (.ineg, 1) := by decide +kernel
theorem dX5_move_107 : decode cX5_move 107 = .ok (.iconst 1, 1) := by decide +kernel
theorem dX5_move_108 : decode cX5_move 108 = .ok (.invokevirtual 127, 3) := by decide +kernel
theorem dX5_move_111 : decode cX5_move 111 = .ok (.aload_n 0, 1) := by decide +kernel
theorem dX5_move_112 : decode cX5_move 112 = .ok (.new 88, 3) := by decide +kernel
theorem dX5_move_115 : decode cX5_move 115 = .ok (.dup, 1) := by decide +kernel
theorem dX5_move_116 : decode cX5_move 116 = .ok (.aload_n 0, 1) := by decide +kernel
theorem dX5_move_117 : decode cX5_move 117 = .ok (.getfield 16, 3) := by decide +kernel
theorem dX5_move_120 : decode cX5_move 120 = .ok (.invokevirtual 90, 3) := by decide +kernel
theorem dX5_move_123 : decode cX5_move 123 = .ok (.aload 5, 2) := by decide +kernel
theorem dX5_move_125 : decode cX5_move 125 = .ok (.aload 4, 2) := by decide +kernel
theorem dX5_move_127 : decode cX5_move 127 = .ok (.getfield 131, 3) := by decide +kernel
theorem dX5_move_130 : decode cX5_move 130 = .ok (.aload 4, 2) := by decide +kernel
theorem dX5_move_132 : decode cX5_move 132 = .ok (.getfield 134, 3) := by decide +kernel
theorem dX5_move_135 : decode cX5_move 135 = .ok (.invokespecial 94, 3) := by decide +kernel
theorem dX5_move_138 : decode cX5_move 138 = .ok (.iload_n 3, 1) := by decide +kernel
theorem dX5_move_139 : decode cX5_move 139 = .ok (.iconst 1, 1) := by decide +kernel
theorem dX5_move_140 : decode cX5_move 140 = .ok (.invokevirtual 97, 3) := by decide +kernel
theorem dX5_move_143 : decode cX5_move 143 = .ok (.ireturn, 1) := by decide +kernel
set_option maxRecDepth 20000 in
theorem ggX5_count_X5_requireLot : GoodIn wsX5_count wsX5_requireLot := goodIn_ca (goodIn_r _ [9, 1, 10, 11, 12, 13, 14, 15, 16, 17, 8, 18, 19, 20, 131, 132, 133, 134, 135, 136, 137, 143, 144, 145] (by decide +kernel) (by decide +kernel)) (goodIn_sub (fun _ h => List.mem_cons_of_mem _ (List.mem_append_left _ (List.mem_append_left _ (List.mem_append_right _ h)))) (by decide +kernel))
set_option maxRecDepth 20000 in
theorem gX5_count_X5_requireLot : GoodIn wsX5_count (wsV RX5 101 RX5 yX5_requireLot wsX5_requireLot) := goodIn_app (goodIn_of _ (by decide +kernel)) ggX5_count_X5_requireLot
set_option maxRecDepth 20000 in
theorem ggX5_count_X5_requireRange : GoodIn wsX5_count wsX5_requireRange := goodIn_ca (goodIn_r _ [23, 24, 25] (by decide +kernel) (by decide +kernel)) (goodIn_sub (fun _ h => List.mem_cons_of_mem _ (List.mem_append_left _ (List.mem_append_right _ h))) (by decide +kernel))
set_option maxRecDepth 20000 in
theorem gX5_count_X5_requireRange : GoodIn wsX5_count (va_wsS RX5 81 yX5_requireRange wsX5_requireRange) := goodIn_app (goodIn_of _ (by decide +kernel)) ggX5_count_X5_requireRange
set_option maxRecDepth 20000 in
theorem ggX5_count_Jx4a65c_get_915e3 : GoodIn wsX5_count wsJx4a65c_get_915e3 := goodIn_r _ [29, 15, 30, 31, 32, 33, 34, 35, 36, 37, 38, 39, 40, 13, 41, 42, 143, 144, 145] (by decide +kernel) (by decide +kernel)
set_option maxRecDepth 20000 in
theorem gX5_count_Jx4a65c_get_915e3 : GoodIn wsX5_count (wsV RX5 60 RJx4a65c yJx4a65c_get_915e3 wsJx4a65c_get_915e3) := goodIn_app (goodIn_of _ (by decide +kernel)) ggX5_count_Jx4a65c_get_915e3
set_option maxRecDepth 20000 in
theorem ggX5_count_X5_requireReached : GoodIn wsX5_count wsX5_requireReached := goodIn_ca (goodIn_r _ [46, 47, 48, 49, 50, 51, 52, 53, 54, 55, 56, 57, 146, 147, 148, 131, 132, 133, 134, 135, 136, 137, 149, 150] (by decide +kernel) (by decide +kernel)) (goodIn_sub (fun _ h => List.mem_cons_of_mem _ (List.mem_append_right _ h)) (by decide +kernel))
set_option maxRecDepth 20000 in
theorem gX5_count_X5_requireReached : GoodIn wsX5_count (wsV RX5 115 RX5 yX5_requireReached wsX5_requireReached) := goodIn_app (goodIn_of _ (by decide +kernel)) ggX5_count_X5_requireReached
set_option maxRecDepth 20000 in
theorem ggX5_count_X5_changeAmount : GoodIn wsX5_count wsX5_changeAmount := goodIn_r _ [61, 4, 62, 63, 64, 65, 66, 67, 10, 11, 12, 13, 14, 15, 68, 69, 70, 71, 72, 73, 74, 75, 76, 77, 78, 79, 80, 81, 82, 83, 42, 84, 85, 86, 87, 88, 89, 90, 91, 92, 93, 94, 95, 96, 97, 98, 99, 100, 101, 102, 103, 104, 105, 106, 107, 108, 109, 110, 111, 112, 113, 114, 115, 116, 117, 118, 119, 120, 121, 122, 123, 124, 125, 126, 127, 128, 129, 130, 138, 139, 140, 141, 142, 131, 132, 133, 134, 135, 136, 137, 151, 152, 153, 154, 143, 144, 145] (by decide +kernel) (by decide +kernel)
set_option maxRecDepth 20000 in
theorem gX5_count_X5_changeAmount : GoodIn wsX5_count (wsV RX5 127 RX5 yX5_changeAmount wsX5_changeAmount) := goodIn_app (goodIn_of _ (by decide +kernel)) ggX5_count_X5_changeAmount
theorem dX5_count_0 : decode cX5_count 0 = .ok (.aload_n 0, 1) := by decide +kernel
theorem dX5_count_1 : decode cX5_count 1 = .ok (.iload_n 1, 1) := by decide +kernel
theorem dX5_count_2 : decode cX5_count 2 = .ok (.invokevirtual 101, 3) := by decide +kernel
theorem dX5_count_5 : decode cX5_count 5 = .ok (.iload_n 2, 1) := by decide +kernel
theorem dX5_count_6 : decode cX5_count 6 = .ok (.iconst 0, 1) := by decide +kernel
theorem dX5_count_7 : decode cX5_count 7 = .ok (.sipush 1000, 3) := by decide +kernel
theorem dX5_count_10 : decode cX5_count 10 = .ok (.invokestatic 81, 3) := by decide +kernel
theorem dX5_count_13 : decode cX5_count 13 = .ok (.aload_n 0, 1) := by decide +kernel
theorem dX5_count_14 : decode cX5_count 14 = .ok (.getfield 16, 3) := by decide +kernel
theorem dX5_count_17 : decode cX5_count 17 = .ok (.iload_n 1, 1) := by decide +kernel
theorem dX5_count_18 : decode cX5_count 18 = .ok (.invokevirtual 60, 3) := by decide +kernel
theorem dX5_count_21 : decode cX5_count 21 = .ok (.checkcast 88, 3) := by decide +kernel
theorem dX5_count_24 : decode cX5_count 24 = .ok (.astore_n 3, 1) := by decide +kernel
theorem dX5_count_25 : decode cX5_count 25 = .ok (.aload_n 0, 1) := by decide +kernel
theorem dX5_count_26 : decode cX5_count 26 = .ok (.aload_n 3, 1) := by decide +kernel
theorem dX5_count_27 : decode cX5_count 27 = .ok (.getfield 104, 3) := by decide +kernel
theorem dX5_count_30 : decode cX5_count 30 = .ok (.invokevirtual 115, 3) := by decide +kernel
theorem dX5_count_33 : decode cX5_count 33 = .ok (.iload_n 2, 1) := by decide +kernel
theorem dX5_count_34 : decode cX5_count 34 = .ok (.aload_n 3, 1) := by decide +kernel
theorem dX5_count_35 : decode cX5_count 35 = .ok (.getfield 119, 3) := by decide +kernel
theorem dX5_count_38 : decode cX5_count 38 = .ok (.isub, 1) := by decide +kernel
theorem dX5_count_39 : decode cX5_count 39 = .ok (.istore 4, 2) := by decide +kernel
theorem dX5_count_41 : decode cX5_count 41 = .ok (.aload_n 0, 1) := by decide +kernel
theorem dX5_count_42 : decode cX5_count 42 = .ok (.aload_n 3, 1) := by decide +kernel
theorem dX5_count_43 : decode cX5_count 43 = .ok (.iload 4, 2) := by decide +kernel
theorem dX5_count_45 : decode cX5_count 45 = .ok (.iconst 5, 1) := by decide +kernel
theorem dX5_count_46 : decode cX5_count 46 = .ok (.invokevirtual 127, 3) := by decide +kernel
theorem dX5_count_49 : decode cX5_count 49 = .ok (.iload 4, 2) := by decide +kernel
theorem dX5_count_51 : decode cX5_count 51 = .ok (.ireturn, 1) := by decide +kernel
set_option maxRecDepth 20000 in
theorem ggX5_setPeople_X5_requireWork : GoodIn wsX5_setPeople wsX5_requireWork := goodIn_ca (goodIn_r _ [8, 1, 9, 10, 11, 12, 13, 14, 15, 16, 7, 17, 18, 19, 42, 43, 44, 45, 46, 47, 48, 53, 54, 55] (by decide +kernel) (by decide +kernel)) (goodIn_sub (fun _ h => List.mem_cons_of_mem _ (List.mem_append_left _ (List.mem_append_right _ h))) (by decide +kernel))
set_option maxRecDepth 20000 in
theorem gX5_setPeople_X5_requireWork : GoodIn wsX5_setPeople (wsV RX5 137 RX5 yX5_requireWork wsX5_requireWork) := goodIn_app (goodIn_of _ (by decide +kernel)) ggX5_setPeople_X5_requireWork
set_option maxRecDepth 20000 in
theorem ggX5_setPeople_X5_requireRange : GoodIn wsX5_setPeople wsX5_requireRange := goodIn_ca (goodIn_r _ [22, 23, 24] (by decide +kernel) (by decide +kernel)) (goodIn_sub (fun _ h => List.mem_cons_of_mem _ (List.mem_append_right _ h)) (by decide +kernel))
set_option maxRecDepth 20000 in
theorem gX5_setPeople_X5_requireRange : GoodIn wsX5_setPeople (va_wsS RX5 81 yX5_requireRange wsX5_requireRange) := goodIn_app (goodIn_of _ (by decide +kernel)) ggX5_setPeople_X5_requireRange
set_option maxRecDepth 20000 in
theorem ggX5_setPeople_Jx4a65c_get_915e3 : GoodIn wsX5_setPeople wsJx4a65c_get_915e3 := goodIn_r _ [28, 14, 29, 30, 31, 32, 33, 34, 35, 36, 37, 38, 39, 12, 40, 41, 53, 54, 55] (by decide +kernel) (by decide +kernel)
set_option maxRecDepth 20000 in
theorem gX5_setPeople_Jx4a65c_get_915e3 : GoodIn wsX5_setPeople (wsV RX5 60 RJx4a65c yJx4a65c_get_915e3 wsJx4a65c_get_915e3) := goodIn_app (goodIn_of _ (by decide +kernel)) ggX5_setPeople_Jx4a65c_get_915e3
theorem dX5_setPeople_0 : decode cX5_setPeople 0 = .ok (.aload_n 0, 1) := by decide +kernel
theorem dX5_setPeople_1 : decode cX5_setPeople 1 = .ok (.iload_n 1, 1) := by decide +kernel
theorem dX5_setPeople_2 : decode cX5_setPeople 2 = .ok (.invokevirtual 137, 3) := by decide +kernel
theorem dX5_setPeople_5 : decode cX5_setPeople 5 = .ok (.iload_n 2, 1) := by decide +kernel
theorem dX5_setPeople_6 : decode cX5_setPeople 6 = .ok (.iconst 0, 1) := by decide +kernel
theorem dX5_setPeople_7 : decode cX5_setPeople 7 = .ok (.bipush 20, 2) := by decide +kernel
theorem dX5_setPeople_9 : decode cX5_setPeople 9 = .ok (.invokestatic 81, 3) := by decide +kernel
theorem dX5_setPeople_12 : decode cX5_setPeople 12 = .ok (.aload_n 0, 1) := by decide +kernel
theorem dX5_setPeople_13 : decode cX5_setPeople 13 = .ok (.getfield 19, 3) := by decide +kernel
theorem dX5_setPeople_16 : decode cX5_setPeople 16 = .ok (.iload_n 1, 1) := by decide +kernel
theorem dX5_setPeople_17 : decode cX5_setPeople 17 = .ok (.invokevirtual 60, 3) := by decide +kernel
theorem dX5_setPeople_20 : decode cX5_setPeople 20 = .ok (.checkcast 48, 3) := by decide +kernel
theorem dX5_setPeople_23 : decode cX5_setPeople 23 = .ok (.astore_n 3, 1) := by decide +kernel
theorem dX5_setPeople_24 : decode cX5_setPeople 24 = .ok (.aload_n 3, 1) := by decide +kernel
theorem dX5_setPeople_25 : decode cX5_setPeople 25 = .ok (.getfield 140, 3) := by decide +kernel
theorem dX5_setPeople_28 : decode cX5_setPeople 28 = .ok (.istore 4, 2) := by decide +kernel
theorem dX5_setPeople_30 : decode cX5_setPeople 30 = .ok (.aload_n 3, 1) := by decide +kernel
theorem dX5_setPeople_31 : decode cX5_setPeople 31 = .ok (.iload_n 2, 1) := by decide +kernel
theorem dX5_setPeople_32 : decode cX5_setPeople 32 = .ok (.putfield 140, 3) := by decide +kernel
theorem dX5_setPeople_35 : decode cX5_setPeople 35 = .ok (.iload 4, 2) := by decide +kernel
theorem dX5_setPeople_37 : decode cX5_setPeople 37 = .ok (.ireturn, 1) := by decide +kernel
set_option maxRecDepth 20000 in
theorem ggX5_pass_X5_requireRange : GoodIn wsX5_pass wsX5_requireRange := goodIn_ca (goodIn_r _ [7, 8, 9] (by decide +kernel) (by decide +kernel)) (goodIn_sub (fun _ h => List.mem_cons_of_mem _ (List.mem_append_right _ h)) (by decide +kernel))
set_option maxRecDepth 20000 in
theorem gX5_pass_X5_requireRange : GoodIn wsX5_pass (va_wsS RX5 81 yX5_requireRange wsX5_requireRange) := goodIn_app (goodIn_of _ (by decide +kernel)) ggX5_pass_X5_requireRange
set_option maxRecDepth 20000 in
theorem ggX5_pass_X5_throwAwayOld : GoodIn wsX5_pass wsX5_throwAwayOld := goodIn_r _ [13, 14, 15, 16, 3, 17, 18, 19, 20, 21, 22, 23, 24, 25, 26, 27, 28, 29, 30, 31, 32, 33, 34, 35, 36, 37, 38, 39, 40, 41, 42, 43, 6, 44, 45, 46, 47, 48, 49, 50, 51, 52, 53, 54, 55, 56, 57, 58, 59, 60, 61, 62, 63, 64, 65, 66, 67, 68, 69, 70, 71, 72, 73, 74, 75, 76, 77, 78, 79, 80, 81, 82, 83, 84, 85, 86, 87, 88, 89, 90, 91, 92, 93, 94, 95, 96, 97, 98, 99, 100, 101, 102, 103, 104, 105, 106, 107, 108, 109, 110, 111, 112, 113, 173, 174, 175, 176, 177, 178, 179, 180, 181, 182, 183, 184, 185, 186, 187, 188, 189, 190, 191] (by decide +kernel) (by decide +kernel)
set_option maxRecDepth 20000 in
theorem gX5_pass_X5_throwAwayOld : GoodIn wsX5_pass (wsV RX5 145 RX5 yX5_throwAwayOld wsX5_throwAwayOld) := goodIn_app (goodIn_of _ (by decide +kernel)) ggX5_pass_X5_throwAwayOld
set_option maxRecDepth 20000 in
theorem ggX5_pass_X5_freeze : GoodIn wsX5_pass wsX5_freeze := goodIn_r _ [117, 118, 3, 14, 15, 119, 120, 121, 17, 122, 123, 124, 125, 126, 127, 128, 18, 19, 20, 21, 22, 23, 24, 25, 26, 27, 28, 29, 30, 31, 32, 33, 34, 35, 36, 37, 38, 39, 40, 41, 42, 43, 6, 44, 45, 46, 47, 48, 49, 50, 51, 52, 53, 54, 55, 56, 57, 58, 59, 60, 61, 62, 63, 64, 65, 66, 67, 68, 69, 70, 71, 72, 73, 74, 75, 76, 77, 78, 79, 80, 81, 82, 83, 84, 85, 86, 87, 88, 89, 90, 91, 92, 93, 94, 95, 96, 97, 98, 99, 100, 101, 102, 103, 104, 105, 106, 107, 108, 109, 110, 111, 112, 113, 173, 174, 175, 176, 177, 178, 179, 180, 181, 182, 183, 184, 192, 193, 194, 195, 196, 185, 186, 187, 188, 189, 190, 191] (by decide +kernel) (by decide +kernel)
set_option maxRecDepth 20000 in
theorem gX5_pass_X5_freeze : GoodIn wsX5_pass (wsV RX5 148 RX5 yX5_freeze wsX5_freeze) := goodIn_app (goodIn_of _ (by decide +kernel)) ggX5_pass_X5_freeze
set_option maxRecDepth 20000 in
theorem ggX5_pass_X5_feedPeople : GoodIn wsX5_pass wsX5_feedPeople := goodIn_r _ [132, 133, 108, 82, 109, 134, 135, 136, 6, 137, 14, 15, 17, 18, 19, 20, 21, 22, 23, 24, 25, 26, 27, 28, 29, 30, 31, 32, 33, 34, 35, 36, 37, 38, 39, 40, 138, 139, 140, 141, 142, 143, 144, 145, 146, 147, 148, 149, 150, 151, 152, 153, 154, 155, 156, 157, 158, 159, 160, 161, 162, 163, 164, 165, 166, 167, 168, 169, 170, 171, 172, 16, 41, 42, 43, 44, 45, 46, 47, 48, 49, 50, 51, 52, 53, 54, 55, 56, 57, 58, 59, 60, 61, 62, 63, 64, 65, 66, 67, 68, 69, 70, 71, 72, 73, 74, 75, 76, 77, 78, 79, 80, 81, 83, 84, 85, 86, 87, 88, 89, 90, 91, 92, 93, 94, 95, 96, 97, 98, 99, 100, 101, 102, 103, 104, 105, 106, 107, 110, 111, 112, 113, 173, 174, 175, 176, 177, 178, 179, 180, 181, 182, 183, 184, 185, 186, 187, 192, 193, 194, 197, 198, 199, 200, 188, 189, 190, 191] (by decide +kernel) (by decide +kernel)
set_option maxRecDepth 20000 in
theorem gX5_pass_X5_feedPeople : GoodIn wsX5_pass (wsV RX5 151 RX5 yX5_feedPeople wsX5_feedPeople) := goodIn_app (goodIn_of _ (by decide +kernel)) ggX5_pass_X5_feedPeople
theorem dX5_pass_0 : decode cX5_pass 0 = .ok (.iload_n 1, 1) := by decide +kernel
theorem dX5_pass_1 : decode cX5_pass 1 = .ok (.iconst 1, 1) := by decide +kernel
theorem dX5_pass_2 : decode cX5_pass 2 = .ok (.bipush 60, 2) := by decide +kernel
theorem dX5_pass_4 : decode cX5_pass 4 = .ok (.invokestatic 81, 3) := by decide +kernel
theorem dX5_pass_7 : decode cX5_pass 7 = .ok (.aload_n 0, 1) := by decide +kernel
theorem dX5_pass_8 : decode cX5_pass 8 = .ok (.getfield 32, 3) := by decide +kernel
theorem dX5_pass_11 : decode cX5_pass 11 = .ok (.sipush 1500, 3) := by decide +kernel
theorem dX5_pass_14 : decode cX5_pass 14 = .ok (.iload_n 1, 1) := by decide +kernel
theorem dX5_pass_15 : decode cX5_pass 15 = .ok (.isub, 1) := by decide +kernel
theorem dX5_pass_16 : decode cX5_pass 16 = .ok (.if_icmp .le 13, 3) := by decide +kernel
theorem dX5_pass_19 : decode cX5_pass 19 = .ok (.new 122, 3) := by decide +kernel
theorem dX5_pass_22 : decode cX5_pass 22 = .ok (.dup, 1) := by decide +kernel
theorem dX5_pass_23 : decode cX5_pass 23 = .ok (.ldc 143, 2) := by decide +kernel
theorem dX5_pass_25 : decode cX5_pass 25 = .ok (.invokespecial 126, 3) := by decide +kernel
theorem dX5_pass_28 : decode cX5_pass 28 = .ok (.athrow, 1) := by decide +kernel
theorem dX5_pass_29 : decode cX5_pass 29 = .ok (.iconst 0, 1) := by decide +kernel
theorem dX5_pass_30 : decode cX5_pass 30 = .ok (.istore_n 2, 1) := by decide +kernel
theorem dX5_pass_31 : decode cX5_pass 31 = .ok (.iconst 0, 1) := by decide +kernel
theorem dX5_pass_32 : decode cX5_pass 32 = .ok (.istore_n 3, 1) := by decide +kernel
theorem dX5_pass_33 : decode cX5_pass 33 = .ok (.iload_n 3, 1) := by decide +kernel
theorem dX5_pass_34 : decode cX5_pass 34 = .ok (.iload_n 1, 1) := by decide +kernel
theorem dX5_pass_35 : decode cX5_pass 35 = .ok (.if_icmp .ge 34, 3) := by decide +kernel
theorem dX5_pass_38 : decode cX5_pass 38 = .ok (.aload_n 0, 1) := by decide +kernel
theorem dX5_pass_39 : decode cX5_pass 39 = .ok (.invokevirtual 145, 3) := by decide +kernel
theorem dX5_pass_42 : decode cX5_pass 42 = .ok (.aload_n 0, 1) := by decide +kernel
theorem dX5_pass_43 : decode cX5_pass 43 = .ok (.invokevirtual 148, 3) := by decide +kernel
theorem dX5_pass_46 : decode cX5_pass 46 = .ok (.iload_n 2, 1) := by decide +kernel
theorem dX5_pass_47 : decode cX5_pass 47 = .ok (.aload_n 0, 1) := by decide +kernel
theorem dX5_pass_48 : decode cX5_pass 48 = .ok (.invokevirtual 151, 3) := by decide +kernel
theorem dX5_pass_51 : decode cX5_pass 51 = .ok (.iadd, 1) := by decide +kernel
theorem dX5_pass_52 : decode cX5_pass 52 = .ok (.istore_n 2, 1) := by decide +kernel
theorem dX5_pass_53 : decode cX5_pass 53 = .ok (.aload_n 0, 1) := by decide +kernel
theorem dX5_pass_54 : decode cX5_pass 54 = .ok (.dup, 1) := by decide +kernel
theorem dX5_pass_55 : decode cX5_pass 55 = .ok (.getfield 32, 3) := by decide +kernel
theorem dX5_pass_58 : decode cX5_pass 58 = .ok (.iconst 1, 1) := by decide +kernel
theorem dX5_pass_59 : decode cX5_pass 59 = .ok (.iadd, 1) := by decide +kernel
theorem dX5_pass_60 : decode cX5_pass 60 = .ok (.putfield 32, 3) := by decide +kernel
theorem dX5_pass_63 : decode cX5_pass 63 = .ok (.iinc 3 1, 3) := by decide +kernel
theorem dX5_pass_66 : decode cX5_pass 66 = .ok (.goto (-33), 3) := by decide +kernel
theorem dX5_pass_69 : decode cX5_pass 69 = .ok (.iload_n 2, 1) := by decide +kernel
theorem dX5_pass_70 : decode cX5_pass 70 = .ok (.ireturn, 1) := by decide +kernel
theorem dX5_nextCrew_0 : decode cX5_nextCrew 0 = .ok (.aload_n 0, 1) := by decide +kernel
theorem dX5_nextCrew_1 : decode cX5_nextCrew 1 = .ok (.getfield 36, 3) := by decide +kernel
theorem dX5_nextCrew_4 : decode cX5_nextCrew 4 = .ok (.bipush 19, 2) := by decide +kernel
theorem dX5_nextCrew_6 : decode cX5_nextCrew 6 = .ok (.if_icmp .lt 13, 3) := by decide +kernel
theorem dX5_nextCrew_9 : decode cX5_nextCrew 9 = .ok (.new 122, 3) := by decide +kernel
theorem dX5_nextCrew_12 : decode cX5_nextCrew 12 = .ok (.dup, 1) := by decide +kernel
theorem dX5_nextCrew_13 : decode cX5_nextCrew 13 = .ok (.ldc 154, 2) := by decide +kernel
theorem dX5_nextCrew_15 : decode cX5_nextCrew 15 = .ok (.invokespecial 126, 3) := by decide +kernel
theorem dX5_nextCrew_18 : decode cX5_nextCrew 18 = .ok (.athrow, 1) := by decide +kernel
theorem dX5_nextCrew_19 : decode cX5_nextCrew 19 = .ok (.aload_n 0, 1) := by decide +kernel
theorem dX5_nextCrew_20 : decode cX5_nextCrew 20 = .ok (.dup, 1) := by decide +kernel
theorem dX5_nextCrew_21 : decode cX5_nextCrew 21 = .ok (.getfield 36, 3) := by decide +kernel
theorem dX5_nextCrew_24 : decode cX5_nextCrew 24 = .ok (.iconst 1, 1) := by decide +kernel
theorem dX5_nextCrew_25 : decode cX5_nextCrew 25 = .ok (.iadd, 1) := by decide +kernel
theorem dX5_nextCrew_26 : decode cX5_nextCrew 26 = .ok (.putfield 36, 3) := by decide +kernel
theorem dX5_nextCrew_29 : decode cX5_nextCrew 29 = .ok (.aload_n 0, 1) := by decide +kernel
theorem dX5_nextCrew_30 : decode cX5_nextCrew 30 = .ok (.getfield 36, 3) := by decide +kernel
theorem dX5_nextCrew_33 : decode cX5_nextCrew 33 = .ok (.ireturn, 1) := by decide +kernel
theorem dX5_today_0 : decode cX5_today 0 = .ok (.aload_n 0, 1) := by decide +kernel
theorem dX5_today_1 : decode cX5_today 1 = .ok (.getfield 32, 3) := by decide +kernel
theorem dX5_today_4 : decode cX5_today 4 = .ok (.ireturn, 1) := by decide +kernel
set_option maxRecDepth 20000 in
theorem ggX5_hunger_X5_requireWork : GoodIn wsX5_hunger wsX5_requireWork := goodIn_ca (goodIn_r _ [8, 1, 9, 10, 11, 12, 13, 14, 15, 16, 7, 17, 18, 19, 37, 38, 39, 40, 41, 42, 43, 48, 49, 50] (by decide +kernel) (by decide +kernel)) (goodIn_sub (fun _ h => List.mem_cons_of_mem _ (List.mem_append_right _ h)) (by decide +kernel))
set_option maxRecDepth 20000 in
theorem gX5_hunger_X5_requireWork : GoodIn wsX5_hunger (wsV RX5 137 RX5 yX5_requireWork wsX5_requireWork) := goodIn_app (goodIn_of _ (by decide +kernel)) ggX5_hunger_X5_requireWork
set_option maxRecDepth 20000 in
theorem ggX5_hunger_Jx4a65c_get_915e3 : GoodIn wsX5_hunger wsJx4a65c_get_915e3 := goodIn_r _ [23, 14, 24, 25, 26, 27, 28, 29, 30, 31, 32, 33, 34, 12, 35, 36, 48, 49, 50] (by decide +kernel) (by decide +kernel)
set_option maxRecDepth 20000 in
theorem gX5_hunger_Jx4a65c_get_915e3 : GoodIn wsX5_hunger (wsV RX5 60 RJx4a65c yJx4a65c_get_915e3 wsJx4a65c_get_915e3) := goodIn_app (goodIn_of _ (by decide +kernel)) ggX5_hunger_Jx4a65c_get_915e3
theorem dX5_hunger_0 : decode cX5_hunger 0 = .ok (.aload_n 0, 1) := by decide +kernel
theorem dX5_hunger_1 : decode cX5_hunger 1 = .ok (.iload_n 1, 1) := by decide +kernel
theorem dX5_hunger_2 : decode cX5_hunger 2 = .ok (.invokevirtual 137, 3) := by decide +kernel
theorem dX5_hunger_5 : decode cX5_hunger 5 = .ok (.aload_n 0, 1) := by decide +kernel
theorem dX5_hunger_6 : decode cX5_hunger 6 = .ok (.getfield 19, 3) := by decide +kernel
theorem dX5_hunger_9 : decode cX5_hunger 9 = .ok (.iload_n 1, 1) := by decide +kernel
theorem dX5_hunger_10 : decode cX5_hunger 10 = .ok (.invokevirtual 60, 3) := by decide +kernel
theorem dX5_hunger_13 : decode cX5_hunger 13 = .ok (.checkcast 48, 3) := by decide +kernel
theorem dX5_hunger_16 : decode cX5_hunger 16 = .ok (.getfield 156, 3) := by decide +kernel
theorem dX5_hunger_19 : decode cX5_hunger 19 = .ok (.ireturn, 1) := by decide +kernel
set_option maxRecDepth 20000 in
theorem ggX5_lots_Jx4a65c_size_8abf5 : GoodIn wsX5_lots wsJx4a65c_size_8abf5 := goodIn_r _ [6, 7, 15, 16, 17] (by decide +kernel) (by decide +kernel)
set_option maxRecDepth 20000 in
theorem gX5_lots_Jx4a65c_size_8abf5 : GoodIn wsX5_lots (wsV RX5 90 RJx4a65c yJx4a65c_size_8abf5 wsJx4a65c_size_8abf5) := goodIn_app (goodIn_of _ (by decide +kernel)) ggX5_lots_Jx4a65c_size_8abf5
theorem dX5_lots_0 : decode cX5_lots 0 = .ok (.aload_n 0, 1) := by decide +kernel
theorem dX5_lots_1 : decode cX5_lots 1 = .ok (.getfield 16, 3) := by decide +kernel
theorem dX5_lots_4 : decode cX5_lots 4 = .ok (.invokevirtual 90, 3) := by decide +kernel
theorem dX5_lots_7 : decode cX5_lots 7 = .ok (.ireturn, 1) := by decide +kernel
set_option maxRecDepth 20000 in
theorem ggX5_amount_X5_requireLot : GoodIn wsX5_amount wsX5_requireLot := goodIn_ca (goodIn_r _ [8, 1, 9, 10, 11, 12, 13, 14, 15, 16, 7, 17, 18, 19, 37, 38, 39, 40, 41, 42, 43, 49, 50, 51] (by decide +kernel) (by decide +kernel)) (goodIn_sub (fun _ h => List.mem_cons_of_mem _ (List.mem_append_right _ h)) (by decide +kernel))
set_option maxRecDepth 20000 in
theorem gX5_amount_X5_requireLot : GoodIn wsX5_amount (wsV RX5 101 RX5 yX5_requireLot wsX5_requireLot) := goodIn_app (goodIn_of _ (by decide +kernel)) ggX5_amount_X5_requireLot
set_option maxRecDepth 20000 in
theorem ggX5_amount_Jx4a65c_get_915e3 : GoodIn wsX5_amount wsJx4a65c_get_915e3 := goodIn_r _ [23, 14, 24, 25, 26, 27, 28, 29, 30, 31, 32, 33, 34, 12, 35, 36, 49, 50, 51] (by decide +kernel) (by decide +kernel)
set_option maxRecDepth 20000 in
theorem gX5_amount_Jx4a65c_get_915e3 : GoodIn wsX5_amount (wsV RX5 60 RJx4a65c yJx4a65c_get_915e3 wsJx4a65c_get_915e3) := goodIn_app (goodIn_of _ (by decide +kernel)) ggX5_amount_Jx4a65c_get_915e3
theorem dX5_amount_0 : decode cX5_amount 0 = .ok (.aload_n 0, 1) := by decide +kernel
theorem dX5_amount_1 : decode cX5_amount 1 = .ok (.iload_n 1, 1) := by decide +kernel
theorem dX5_amount_2 : decode cX5_amount 2 = .ok (.invokevirtual 101, 3) := by decide +kernel
theorem dX5_amount_5 : decode cX5_amount 5 = .ok (.aload_n 0, 1) := by decide +kernel
theorem dX5_amount_6 : decode cX5_amount 6 = .ok (.getfield 16, 3) := by decide +kernel
theorem dX5_amount_9 : decode cX5_amount 9 = .ok (.iload_n 1, 1) := by decide +kernel
theorem dX5_amount_10 : decode cX5_amount 10 = .ok (.invokevirtual 60, 3) := by decide +kernel
theorem dX5_amount_13 : decode cX5_amount 13 = .ok (.checkcast 88, 3) := by decide +kernel
theorem dX5_amount_16 : decode cX5_amount 16 = .ok (.getfield 119, 3) := by decide +kernel
theorem dX5_amount_19 : decode cX5_amount 19 = .ok (.ireturn, 1) := by decide +kernel
set_option maxRecDepth 20000 in
theorem ggX5_about_X5_requireLot : GoodIn wsX5_about wsX5_requireLot := goodIn_ca (goodIn_r _ [10, 1, 11, 12, 13, 14, 15, 16, 17, 18, 9, 19, 20, 21, 39, 40, 41, 42, 43, 44, 45, 54, 55, 56] (by decide +kernel) (by decide +kernel)) (goodIn_sub (fun _ h => List.mem_cons_of_mem _ (List.mem_append_right _ h)) (by decide +kernel))
set_option maxRecDepth 20000 in
theorem gX5_about_X5_requireLot : GoodIn wsX5_about (wsV RX5 101 RX5 yX5_requireLot wsX5_requireLot) := goodIn_app (goodIn_of _ (by decide +kernel)) ggX5_about_X5_requireLot
set_option maxRecDepth 20000 in
theorem ggX5_about_Jx4a65c_get_915e3 : GoodIn wsX5_about wsJx4a65c_get_915e3 := goodIn_r _ [25, 16, 26, 27, 28, 29, 30, 31, 32, 33, 34, 35, 36, 14, 37, 38, 54, 55, 56] (by decide +kernel) (by decide +kernel)
set_option maxRecDepth 20000 in
theorem gX5_about_Jx4a65c_get_915e3 : GoodIn wsX5_about (wsV RX5 60 RJx4a65c yJx4a65c_get_915e3 wsJx4a65c_get_915e3) := goodIn_app (goodIn_of _ (by decide +kernel)) ggX5_about_Jx4a65c_get_915e3
theorem dX5_about_0 : decode cX5_about 0 = .ok (.aload_n 0, 1) := by decide +kernel
theorem dX5_about_1 : decode cX5_about 1 = .ok (.iload_n 1, 1) := by decide +kernel
theorem dX5_about_2 : decode cX5_about 2 = .ok (.invokevirtual 101, 3) := by decide +kernel
theorem dX5_about_5 : decode cX5_about 5 = .ok (.aload_n 0, 1) := by decide +kernel
theorem dX5_about_6 : decode cX5_about 6 = .ok (.getfield 16, 3) := by decide +kernel
theorem dX5_about_9 : decode cX5_about 9 = .ok (.iload_n 1, 1) := by decide +kernel
theorem dX5_about_10 : decode cX5_about 10 = .ok (.invokevirtual 60, 3) := by decide +kernel
theorem dX5_about_13 : decode cX5_about 13 = .ok (.checkcast 88, 3) := by decide +kernel
theorem dX5_about_16 : decode cX5_about 16 = .ok (.astore_n 2, 1) := by decide +kernel
theorem dX5_about_17 : decode cX5_about 17 = .ok (.bipush 10, 2) := by decide +kernel
theorem dX5_about_19 : decode cX5_about 19 = .ok (.aload_n 2, 1) := by decide +kernel
theorem dX5_about_20 : decode cX5_about 20 = .ok (.getfield 104, 3) := by decide +kernel
theorem dX5_about_23 : decode cX5_about 23 = .ok (.getfield 159, 3) := by decide +kernel
theorem dX5_about_26 : decode cX5_about 26 = .ok (.imul, 1) := by decide +kernel
theorem dX5_about_27 : decode cX5_about 27 = .ok (.aload_n 2, 1) := by decide +kernel
theorem dX5_about_28 : decode cX5_about 28 = .ok (.getfield 131, 3) := by decide +kernel
theorem dX5_about_31 : decode cX5_about 31 = .ok (.iadd, 1) := by decide +kernel
theorem dX5_about_32 : decode cX5_about 32 = .ok (.ireturn, 1) := by decide +kernel
set_option maxRecDepth 20000 in
theorem ggX5_stock_X5_requireDepot : GoodIn wsX5_stock wsX5_requireDepot := goodIn_ca (goodIn_r _ [8, 9, 10, 11, 12, 13, 14, 15, 16, 17, 7, 18, 19, 20, 50, 51, 52, 53, 54, 55, 56, 62, 63, 64] (by decide +kernel) (by decide +kernel)) (goodIn_sub (fun _ h => List.mem_cons_of_mem _ (List.mem_append_right _ h)) (by decide +kernel))
set_option maxRecDepth 20000 in
theorem gX5_stock_X5_requireDepot : GoodIn wsX5_stock (wsV RX5 53 RX5 yX5_requireDepot wsX5_requireDepot) := goodIn_app (goodIn_of _ (by decide +kernel)) ggX5_stock_X5_requireDepot
set_option maxRecDepth 20000 in
theorem ggX5_stock_X5_requireGood : GoodIn wsX5_stock wsX5_requireGood := goodIn_ca (goodIn_r _ [24, 16, 17, 7, 18, 19, 20] (by decide +kernel) (by decide +kernel)) (goodIn_sub (fun _ h => List.mem_cons_of_mem _ (List.mem_append_right _ h)) (by decide +kernel))
set_option maxRecDepth 20000 in
theorem gX5_stock_X5_requireGood : GoodIn wsX5_stock (wsV RX5 78 RX5 yX5_requireGood wsX5_requireGood) := goodIn_app (goodIn_of _ (by decide +kernel)) ggX5_stock_X5_requireGood
set_option maxRecDepth 20000 in
theorem ggX5_stock_Jx4a65c_size_8abf5 : GoodIn wsX5_stock wsJx4a65c_size_8abf5 := goodIn_r _ [14, 15, 62, 63, 64] (by decide +kernel) (by decide +kernel)
set_option maxRecDepth 20000 in
theorem gX5_stock_Jx4a65c_size_8abf5 : GoodIn wsX5_stock (wsV RX5 90 RJx4a65c yJx4a65c_size_8abf5 wsJx4a65c_size_8abf5) := goodIn_app (goodIn_of _ (by decide +kernel)) ggX5_stock_Jx4a65c_size_8abf5
set_option maxRecDepth 20000 in
theorem ggX5_stock_Jx4a65c_get_915e3 : GoodIn wsX5_stock wsJx4a65c_get_915e3 := goodIn_r _ [28, 15, 29, 30, 31, 32, 33, 34, 35, 36, 37, 38, 39, 13, 40, 41, 62, 63, 64] (by decide +kernel) (by decide +kernel)
set_option maxRecDepth 20000 in
theorem gX5_stock_Jx4a65c_get_915e3 : GoodIn wsX5_stock (wsV RX5 60 RJx4a65c yJx4a65c_get_915e3 wsJx4a65c_get_915e3) := goodIn_app (goodIn_of _ (by decide +kernel)) ggX5_stock_Jx4a65c_get_915e3
set_option maxRecDepth 20000 in
theorem ggX5_stock_X3_isOf : GoodIn wsX5_stock wsX3_isOf := goodIn_r _ [46, 47, 48, 49, 57, 58, 59, 60, 61, 65, 66, 67] (by decide +kernel) (by decide +kernel)
set_option maxRecDepth 20000 in
theorem gX5_stock_X3_isOf : GoodIn wsX5_stock (wsV RX5 162 RX3 yX3_isOf wsX3_isOf) := goodIn_app (goodIn_of _ (by decide +kernel)) ggX5_stock_X3_isOf
theorem dX5_stock_0 : decode cX5_stock 0 = .ok (.aload_n 0, 1) := by decide +kernel
theorem dX5_stock_1 : decode cX5_stock 1 = .ok (.iload_n 1, 1) := by decide +kernel
theorem dX5_stock_2 : decode cX5_stock 2 = .ok (.invokevirtual 53, 3) := by decide +kernel
theorem dX5_stock_5 : decode cX5_stock 5 = .ok (.aload_n 0, 1) := by decide +kernel
theorem dX5_stock_6 : decode cX5_stock 6 = .ok (.iload_n 2, 1) := by decide +kernel
theorem dX5_stock_7 : decode cX5_stock 7 = .ok (.invokevirtual 78, 3) := by decide +kernel
theorem dX5_stock_10 : decode cX5_stock 10 = .ok (.iconst 0, 1) := by decide +kernel
theorem dX5_stock_11 : decode cX5_stock 11 = .ok (.istore_n 3, 1) := by decide +kernel
theorem dX5_stock_12 : decode cX5_stock 12 = .ok (.iconst 0, 1) := by decide +kernel
theorem dX5_stock_13 : decode cX5_stock 13 = .ok (.istore 4, 2) := by decide +kernel
theorem dX5_stock_15 : decode cX5_stock 15 = .ok (.iload 4, 2) := by decide +kernel
theorem dX5_stock_17 : decode cX5_stock 17 = .ok (.aload_n 0, 1) := by decide +kernel
theorem dX5_stock_18 : decode cX5_stock 18 = .ok (.getfield 16, 3) := by decide +kernel
theorem dX5_stock_21 : decode cX5_stock 21 = .ok (.invokevirtual 90, 3) := by decide +kernel
theorem dX5_stock_24 : decode cX5_stock 24 = .ok (.if_icmp .ge 41, 3) := by decide +kernel
theorem dX5_stock_27 : decode cX5_stock 27 = .ok (.aload_n 0, 1) := by decide +kernel
theorem dX5_stock_28 : decode cX5_stock 28 = .ok (.getfield 16, 3) := by decide +kernel
theorem dX5_stock_31 : decode cX5_stock 31 = .ok (.iload 4, 2) := by decide +kernel
theorem dX5_stock_33 : decode cX5_stock 33 = .ok (.invokevirtual 60, 3) := by decide +kernel
theorem dX5_stock_36 : decode cX5_stock 36 = .ok (.checkcast 88, 3) := by decide +kernel
theorem dX5_stock_39 : decode cX5_stock 39 = .ok (.astore 5, 2) := by decide +kernel
theorem dX5_stock_41 : decode cX5_stock 41 = .ok (.aload 5, 2) := by decide +kernel
theorem dX5_stock_43 : decode cX5_stock 43 = .ok (.iload_n 1, 1) := by decide +kernel
theorem dX5_stock_44 : decode cX5_stock 44 = .ok (.iload_n 2, 1) := by decide +kernel
theorem dX5_stock_45 : decode cX5_stock 45 = .ok (.invokevirtual 162, 3) := by decide +kernel
theorem dX5_stock_48 : decode cX5_stock 48 = .ok (.ifCond .eq 11, 3) := by decide +kernel
theorem dX5_stock_51 : decode cX5_stock 51 = .ok (.iload_n 3, 1) := by decide +kernel
theorem dX5_stock_52 : decode cX5_stock 52 = .ok (.aload 5, 2) := by decide +kernel
theorem dX5_stock_54 : decode cX5_stock 54 = .ok (.getfield 119, 3) := by decide +kernel
theorem dX5_stock_57 : decode cX5_stock 57 = .ok (.iadd, 1) := by decide +kernel
theorem dX5_stock_58 : decode cX5_stock 58 = .ok (.istore_n 3, 1) := by decide +kernel
theorem dX5_stock_59 : decode cX5_stock 59 = .ok (.iinc 4 1, 3) := by decide +kernel
theorem dX5_stock_62 : decode cX5_stock 62 = .ok (.goto (-47), 3) := by decide +kernel
theorem dX5_stock_65 : decode cX5_stock 65 = .ok (.iload_n 3, 1) := by decide +kernel
theorem dX5_stock_66 : decode cX5_stock 66 = .ok (.ireturn, 1) := by decide +kernel
set_option maxRecDepth 20000 in
theorem ggX5_stockByJournal_X5_requireDepot : GoodIn wsX5_stockByJournal wsX5_requireDepot := goodIn_ca (goodIn_r _ [9, 10, 11, 12, 13, 14, 15, 16, 17, 18, 8, 19, 20, 21, 51, 52, 53, 54, 55, 56, 57, 62, 63, 64] (by decide +kernel) (by decide +kernel)) (goodIn_sub (fun _ h => List.mem_cons_of_mem _ (List.mem_append_right _ h)) (by decide +kernel))
set_option maxRecDepth 20000 in
theorem gX5_stockByJournal_X5_requireDepot : GoodIn wsX5_stockByJournal (wsV RX5 53 RX5 yX5_requireDepot wsX5_requireDepot) := goodIn_app (goodIn_of _ (by decide +kernel)) ggX5_stockByJournal_X5_requireDepot
set_option maxRecDepth 20000 in
theorem ggX5_stockByJournal_X5_requireGood : GoodIn wsX5_stockByJournal wsX5_requireGood := goodIn_ca (goodIn_r _ [25, 17, 18, 8, 19, 20, 21] (by decide +kernel) (by decide +kernel)) (goodIn_sub (fun _ h => List.mem_cons_of_mem _ (List.mem_append_right _ h)) (by decide +kernel))
set_option maxRecDepth 20000 in
theorem gX5_stockByJournal_X5_requireGood : GoodIn wsX5_stockByJournal (wsV RX5 78 RX5 yX5_requireGood wsX5_requireGood) := goodIn_app (goodIn_of _ (by decide +kernel)) ggX5_stockByJournal_X5_requireGood
set_option maxRecDepth 20000 in
theorem ggX5_stockByJournal_Jx4a65c_size_8abf5 : GoodIn wsX5_stockByJournal wsJx4a65c_size_8abf5 := goodIn_r _ [15, 16, 62, 63, 64] (by decide +kernel) (by decide +kernel)
set_option maxRecDepth 20000 in
theorem gX5_stockByJournal_Jx4a65c_size_8abf5 : GoodIn wsX5_stockByJournal (wsV RX5 90 RJx4a65c yJx4a65c_size_8abf5 wsJx4a65c_size_8abf5) := goodIn_app (goodIn_of _ (by decide +kernel)) ggX5_stockByJournal_Jx4a65c_size_8abf5
set_option maxRecDepth 20000 in
theorem ggX5_stockByJournal_Jx4a65c_get_915e3 : GoodIn wsX5_stockByJournal wsJx4a65c_get_915e3 := goodIn_r _ [29, 16, 30, 31, 32, 33, 34, 35, 36, 37, 38, 39, 40, 14, 41, 42, 62, 63, 64] (by decide +kernel) (by decide +kernel)
set_option maxRecDepth 20000 in
theorem gX5_stockByJournal_Jx4a65c_get_915e3 : GoodIn wsX5_stockByJournal (wsV RX5 60 RJx4a65c yJx4a65c_get_915e3 wsJx4a65c_get_915e3) := goodIn_app (goodIn_of _ (by decide +kernel)) ggX5_stockByJournal_Jx4a65c_get_915e3
set_option maxRecDepth 20000 in
theorem ggX5_stockByJournal_X3_isOf : GoodIn wsX5_stockByJournal wsX3_isOf := goodIn_r _ [47, 48, 49, 50, 65, 66, 67, 68, 69, 70, 71, 72] (by decide +kernel) (by decide +kernel)
set_option maxRecDepth 20000 in
theorem gX5_stockByJournal_X3_isOf : GoodIn wsX5_stockByJournal (wsV RX5 162 RX3 yX3_isOf wsX3_isOf) := goodIn_app (goodIn_of _ (by decide +kernel)) ggX5_stockByJournal_X3_isOf
theorem dX5_stockByJournal_0 : decode cX5_stockByJournal 0 = .ok (.aload_n 0, 1) := by decide +kernel
theorem dX5_stockByJournal_1 : decode cX5_stockByJournal 1 = .ok (.iload_n 1, 1) := by decide +kernel
theorem dX5_stockByJournal_2 : decode cX5_stockByJournal 2 = .ok (.invokevirtual 53, 3) := by decide +kernel
theorem dX5_stockByJournal_5 : decode cX5_stockByJournal 5 = .ok (.aload_n 0, 1) := by decide +kernel
theorem dX5_stockByJournal_6 : decode cX5_stockByJournal 6 = .ok (.iload_n 2, 1) := by decide +kernel
theorem dX5_stockByJournal_7 : decode cX5_stockByJournal 7 = .ok (.invokevirtual 78, 3) := by decide +kernel
theorem dX5_stockByJournal_10 : decode cX5_stockByJournal 10 = .ok (.iconst 0, 1) := by decide +kernel
theorem dX5_stockByJournal_11 : decode cX5_stockByJournal 11 = .ok (.istore_n 3, 1) := by decide +kernel
theorem dX5_stockByJournal_12 : decode cX5_stockByJournal 12 = .ok (.iconst 0, 1) := by decide +kernel
theorem dX5_stockByJournal_13 : decode cX5_stockByJournal 13 = .ok (.istore 4, 2) := by decide +kernel
theorem dX5_stockByJournal_15 : decode cX5_stockByJournal 15 = .ok (.iload 4, 2) := by decide +kernel
theorem dX5_stockByJournal_17 : decode cX5_stockByJournal 17 = .ok (.aload_n 0, 1) := by decide +kernel
theorem dX5_stockByJournal_18 : decode cX5_stockByJournal 18 = .ok (.getfield 22, 3) := by decide +kernel
theorem dX5_stockByJournal_21 : decode cX5_stockByJournal 21 = .ok (.invokevirtual 90, 3) := by decide +kernel
theorem dX5_stockByJournal_24 : decode cX5_stockByJournal 24 = .ok (.if_icmp .ge 44, 3) := by decide +kernel
theorem dX5_stockByJournal_27 : decode cX5_stockByJournal 27 = .ok (.aload_n 0, 1) := by decide +kernel
theorem dX5_stockByJournal_28 : decode cX5_stockByJournal 28 = .ok (.getfield 22, 3) := by decide +kernel
theorem dX5_stockByJournal_31 : decode cX5_stockByJournal 31 = .ok (.iload 4, 2) := by decide +kernel
theorem dX5_stockByJournal_33 : decode cX5_stockByJournal 33 = .ok (.invokevirtual 60, 3) := by decide +kernel
theorem dX5_stockByJournal_36 : decode cX5_stockByJournal 36 = .ok (.checkcast 166, 3) := by decide +kernel
theorem dX5_stockByJournal_39 : decode cX5_stockByJournal 39 = .ok (.astore 5, 2) := by decide +kernel
theorem dX5_stockByJournal_41 : decode cX5_stockByJournal 41 = .ok (.aload 5, 2) := by decide +kernel
theorem dX5_stockByJournal_43 : decode cX5_stockByJournal 43 = .ok (.getfield 168, 3) := by decide +kernel
theorem dX5_stockByJournal_46 : decode cX5_stockByJournal 46 = .ok (.iload_n 1, 1) := by decide +kernel
theorem dX5_stockByJournal_47 : decode cX5_stockByJournal 47 = .ok (.iload_n 2, 1) := by decide +kernel
theorem dX5_stockByJournal_48 : decode cX5_stockByJournal 48 = .ok (.invokevirtual 162, 3) := by decide +kernel
theorem dX5_stockByJournal_51 : decode cX5_stockByJournal 51 = .ok (.ifCond .eq 11, 3) := by decide +kernel
theorem dX5_stockByJournal_54 : decode cX5_stockByJournal 54 = .ok (.iload_n 3, 1) := by decide +kernel
theorem dX5_stockByJournal_55 : decode cX5_stockByJournal 55 = .ok (.aload 5, 2) := by decide +kernel
theorem dX5_stockByJournal_57 : decode cX5_stockByJournal 57 = .ok (.getfield 172, 3) := by decide +kernel
theorem dX5_stockByJournal_60 : decode cX5_stockByJournal 60 = .ok (.iadd, 1) := by decide +kernel
theorem dX5_stockByJournal_61 : decode cX5_stockByJournal 61 = .ok (.istore_n 3, 1) := by decide +kernel
theorem dX5_stockByJournal_62 : decode cX5_stockByJournal 62 = .ok (.iinc 4 1, 3) := by decide +kernel
theorem dX5_stockByJournal_65 : decode cX5_stockByJournal 65 = .ok (.goto (-50), 3) := by decide +kernel
theorem dX5_stockByJournal_68 : decode cX5_stockByJournal 68 = .ok (.iload_n 3, 1) := by decide +kernel
theorem dX5_stockByJournal_69 : decode cX5_stockByJournal 69 = .ok (.ireturn, 1) := by decide +kernel
set_option maxRecDepth 20000 in
theorem ggX5_enoughFor_X5_needOfAll : GoodIn wsX5_enoughFor wsX5_needOfAll := goodIn_r _ [5, 6, 7, 8, 9, 10, 11, 12, 13, 14, 15, 16, 17, 18, 19, 20, 21, 22, 23, 24, 25, 26, 27, 28, 29, 30, 31, 32, 33, 34, 35, 36, 37, 53, 54, 55, 56, 57, 58, 59, 60, 61, 62, 63, 64, 65, 66] (by decide +kernel) (by decide +kernel)
set_option maxRecDepth 20000 in
theorem gX5_enoughFor_X5_needOfAll : GoodIn wsX5_enoughFor (wsV RX5 175 RX5 yX5_needOfAll wsX5_needOfAll) := goodIn_app (goodIn_of _ (by decide +kernel)) ggX5_enoughFor_X5_needOfAll
set_option maxRecDepth 20000 in
theorem ggX5_enoughFor_X5_foodInStation : GoodIn wsX5_enoughFor wsX5_foodInStation := goodIn_r _ [41, 42, 43, 44, 8, 9, 10, 11, 12, 13, 14, 15, 16, 17, 18, 19, 20, 21, 22, 23, 24, 25, 26, 27, 28, 29, 30, 45, 46, 47, 48, 49, 50, 51, 52, 53, 54, 55, 56, 57, 58, 59, 67, 68, 69, 70, 71, 60, 61, 62, 72, 73, 74] (by decide +kernel) (by decide +kernel)
set_option maxRecDepth 20000 in
theorem gX5_enoughFor_X5_foodInStation : GoodIn wsX5_enoughFor (wsV RX5 178 RX5 yX5_foodInStation wsX5_foodInStation) := goodIn_app (goodIn_of _ (by decide +kernel)) ggX5_enoughFor_X5_foodInStation
theorem dX5_enoughFor_0 : decode cX5_enoughFor 0 = .ok (.aload_n 0, 1) := by decide +kernel
theorem dX5_enoughFor_1 : decode cX5_enoughFor 1 = .ok (.invokevirtual 175, 3) := by decide +kernel
theorem dX5_enoughFor_4 : decode cX5_enoughFor 4 = .ok (.istore_n 1, 1) := by decide +kernel
theorem dX5_enoughFor_5 : decode cX5_enoughFor 5 = .ok (.iload_n 1, 1) := by decide +kernel
theorem dX5_enoughFor_6 : decode cX5_enoughFor 6 = .ok (.ifCond .le 12, 3) := by decide +kernel
theorem dX5_enoughFor_9 : decode cX5_enoughFor 9 = .ok (.aload_n 0, 1) := by decide +kernel
theorem dX5_enoughFor_10 : decode cX5_enoughFor 10 = .ok (.invokevirtual 178, 3) := by decide +kernel
theorem dX5_enoughFor_13 : decode cX5_enoughFor 13 = .ok (.iload_n 1, 1) := by decide +kernel
theorem dX5_enoughFor_14 : decode cX5_enoughFor 14 = .ok (.idiv, 1) := by decide +kernel
theorem dX5_enoughFor_15 : decode cX5_enoughFor 15 = .ok (.goto 4, 3) := by decide +kernel
theorem dX5_enoughFor_18 : decode cX5_enoughFor 18 = .ok (.iconst (-1), 1) := by decide +kernel
theorem dX5_enoughFor_19 : decode cX5_enoughFor 19 = .ok (.ireturn, 1) := by decide +kernel
set_option maxRecDepth 20000 in
theorem ggX5_entries_Jx4a65c_size_8abf5 : GoodIn wsX5_entries wsJx4a65c_size_8abf5 := goodIn_r _ [6, 7, 15, 16, 17] (by decide +kernel) (by decide +kernel)
set_option maxRecDepth 20000 in
theorem gX5_entries_Jx4a65c_size_8abf5 : GoodIn wsX5_entries (wsV RX5 90 RJx4a65c yJx4a65c_size_8abf5 wsJx4a65c_size_8abf5) := goodIn_app (goodIn_of _ (by decide +kernel)) ggX5_entries_Jx4a65c_size_8abf5
theorem dX5_entries_0 : decode cX5_entries 0 = .ok (.aload_n 0, 1) := by decide +kernel
theorem dX5_entries_1 : decode cX5_entries 1 = .ok (.getfield 22, 3) := by decide +kernel
theorem dX5_entries_4 : decode cX5_entries 4 = .ok (.invokevirtual 90, 3) := by decide +kernel
theorem dX5_entries_7 : decode cX5_entries 7 = .ok (.ireturn, 1) := by decide +kernel
set_option maxRecDepth 20000 in
theorem ggX5_changeOf_X5_requireEntry : GoodIn wsX5_changeOf wsX5_requireEntry := goodIn_ca (goodIn_r _ [8, 1, 9, 10, 11, 12, 13, 14, 15, 16, 7, 17, 18, 19, 37, 38, 39, 40, 41, 42, 43, 48, 49, 50] (by decide +kernel) (by decide +kernel)) (goodIn_sub (fun _ h => List.mem_cons_of_mem _ (List.mem_append_right _ h)) (by decide +kernel))
set_option maxRecDepth 20000 in
theorem gX5_changeOf_X5_requireEntry : GoodIn wsX5_changeOf (wsV RX5 181 RX5 yX5_requireEntry wsX5_requireEntry) := goodIn_app (goodIn_of _ (by decide +kernel)) ggX5_changeOf_X5_requireEntry
set_option maxRecDepth 20000 in
theorem ggX5_changeOf_Jx4a65c_get_915e3 : GoodIn wsX5_changeOf wsJx4a65c_get_915e3 := goodIn_r _ [23, 14, 24, 25, 26, 27, 28, 29, 30, 31, 32, 33, 34, 12, 35, 36, 48, 49, 50] (by decide +kernel) (by decide +kernel)
set_option maxRecDepth 20000 in
theorem gX5_changeOf_Jx4a65c_get_915e3 : GoodIn wsX5_changeOf (wsV RX5 60 RJx4a65c yJx4a65c_get_915e3 wsJx4a65c_get_915e3) := goodIn_app (goodIn_of _ (by decide +kernel)) ggX5_changeOf_Jx4a65c_get_915e3
theorem dX5_changeOf_0 : decode cX5_changeOf 0 = .ok (.aload_n 0, 1) := by decide +kernel
theorem dX5_changeOf_1 : decode cX5_changeOf 1 = .ok (.iload_n 1, 1) := by decide +kernel
theorem dX5_changeOf_2 : decode cX5_changeOf 2 = .ok (.invokevirtual 181, 3) := by decide +kernel
theorem dX5_changeOf_5 : decode cX5_changeOf 5 = .ok (.aload_n 0, 1) := by decide +kernel
theorem dX5_changeOf_6 : decode cX5_changeOf 6 = .ok (.getfield 22, 3) := by decide +kernel
theorem dX5_changeOf_9 : decode cX5_changeOf 9 = .ok (.iload_n 1, 1) := by decide +kernel
theorem dX5_changeOf_10 : decode cX5_changeOf 10 = .ok (.invokevirtual 60, 3) := by decide +kernel
theorem dX5_changeOf_13 : decode cX5_changeOf 13 = .ok (.checkcast 166, 3) := by decide +kernel
theorem dX5_changeOf_16 : decode cX5_changeOf 16 = .ok (.getfield 172, 3) := by decide +kernel
theorem dX5_changeOf_19 : decode cX5_changeOf 19 = .ok (.ireturn, 1) := by decide +kernel
set_option maxRecDepth 20000 in
theorem ggX5_lotOf_X5_requireEntry : GoodIn wsX5_lotOf wsX5_requireEntry := goodIn_ca (goodIn_r _ [10, 1, 11, 12, 13, 14, 15, 16, 17, 18, 9, 19, 20, 21, 39, 40, 41, 42, 43, 44, 45, 55, 56, 57] (by decide +kernel) (by decide +kernel)) (goodIn_sub (fun _ h => List.mem_cons_of_mem _ (List.mem_append_right _ h)) (by decide +kernel))
set_option maxRecDepth 20000 in
theorem gX5_lotOf_X5_requireEntry : GoodIn wsX5_lotOf (wsV RX5 181 RX5 yX5_requireEntry wsX5_requireEntry) := goodIn_app (goodIn_of _ (by decide +kernel)) ggX5_lotOf_X5_requireEntry
set_option maxRecDepth 20000 in
theorem ggX5_lotOf_Jx4a65c_get_915e3 : GoodIn wsX5_lotOf wsJx4a65c_get_915e3 := goodIn_r _ [25, 16, 26, 27, 28, 29, 30, 31, 32, 33, 34, 35, 36, 14, 37, 38, 55, 56, 57] (by decide +kernel) (by decide +kernel)
set_option maxRecDepth 20000 in
theorem gX5_lotOf_Jx4a65c_get_915e3 : GoodIn wsX5_lotOf (wsV RX5 60 RJx4a65c yJx4a65c_get_915e3 wsJx4a65c_get_915e3) := goodIn_app (goodIn_of _ (by decide +kernel)) ggX5_lotOf_Jx4a65c_get_915e3
theorem dX5_lotOf_0 : decode cX5_lotOf 0 = .ok (.aload_n 0, 1) := by decide +kernel
theorem dX5_lotOf_1 : decode cX5_lotOf 1 = .ok (.iload_n 1, 1) := by decide +kernel
theorem dX5_lotOf_2 : decode cX5_lotOf 2 = .ok (.invokevirtual 181, 3) := by decide +kernel
theorem dX5_lotOf_5 : decode cX5_lotOf 5 = .ok (.aload_n 0, 1) := by decide +kernel
theorem dX5_lotOf_6 : decode cX5_lotOf 6 = .ok (.getfield 22, 3) := by decide +kernel
theorem dX5_lotOf_9 : decode cX5_lotOf 9 = .ok (.iload_n 1, 1) := by decide +kernel
theorem dX5_lotOf_10 : decode cX5_lotOf 10 = .ok (.invokevirtual 60, 3) := by decide +kernel
theorem dX5_lotOf_13 : decode cX5_lotOf 13 = .ok (.checkcast 166, 3) := by decide +kernel
theorem dX5_lotOf_16 : decode cX5_lotOf 16 = .ok (.astore_n 2, 1) := by decide +kernel
theorem dX5_lotOf_17 : decode cX5_lotOf 17 = .ok (.bipush 10, 2) := by decide +kernel
theorem dX5_lotOf_19 : decode cX5_lotOf 19 = .ok (.aload_n 2, 1) := by decide +kernel
theorem dX5_lotOf_20 : decode cX5_lotOf 20 = .ok (.getfield 168, 3) := by decide +kernel
theorem dX5_lotOf_23 : decode cX5_lotOf 23 = .ok (.getfield 184, 3) := by decide +kernel
theorem dX5_lotOf_26 : decode cX5_lotOf 26 = .ok (.imul, 1) := by decide +kernel
theorem dX5_lotOf_27 : decode cX5_lotOf 27 = .ok (.aload_n 2, 1) := by decide +kernel
theorem dX5_lotOf_28 : decode cX5_lotOf 28 = .ok (.getfield 185, 3) := by decide +kernel
theorem dX5_lotOf_31 : decode cX5_lotOf 31 = .ok (.iadd, 1) := by decide +kernel
theorem dX5_lotOf_32 : decode cX5_lotOf 32 = .ok (.ireturn, 1) := by decide +kernel
set_option maxRecDepth 20000 in
theorem ggX5_changed_X5_requireRange : GoodIn wsX5_changed wsX5_requireRange := goodIn_ca (goodIn_r _ [11, 1, 2] (by decide +kernel) (by decide +kernel)) (goodIn_sub (fun _ h => List.mem_cons_of_mem _ (List.mem_append_right _ h)) (by decide +kernel))
set_option maxRecDepth 20000 in
theorem gX5_changed_X5_requireRange : GoodIn wsX5_changed (va_wsS RX5 81 yX5_requireRange wsX5_requireRange) := goodIn_app (goodIn_of _ (by decide +kernel)) ggX5_changed_X5_requireRange
set_option maxRecDepth 20000 in
theorem ggX5_changed_Jx4a65c_size_8abf5 : GoodIn wsX5_changed wsJx4a65c_size_8abf5 := goodIn_r _ [16, 17, 46, 47, 48] (by decide +kernel) (by decide +kernel)
set_option maxRecDepth 20000 in
theorem gX5_changed_Jx4a65c_size_8abf5 : GoodIn wsX5_changed (wsV RX5 90 RJx4a65c yJx4a65c_size_8abf5 wsJx4a65c_size_8abf5) := goodIn_app (goodIn_of _ (by decide +kernel)) ggX5_changed_Jx4a65c_size_8abf5
set_option maxRecDepth 20000 in
theorem ggX5_changed_Jx4a65c_get_915e3 : GoodIn wsX5_changed wsJx4a65c_get_915e3 := goodIn_r _ [21, 17, 22, 23, 24, 25, 26, 27, 28, 29, 30, 31, 32, 15, 33, 34, 46, 47, 48] (by decide +kernel) (by decide +kernel)
set_option maxRecDepth 20000 in
theorem gX5_changed_Jx4a65c_get_915e3 : GoodIn wsX5_changed (wsV RX5 60 RJx4a65c yJx4a65c_get_915e3 wsJx4a65c_get_915e3) := goodIn_app (goodIn_of _ (by decide +kernel)) ggX5_changed_Jx4a65c_get_915e3
theorem dX5_changed_0 : decode cX5_changed 0 = .ok (.iload_n 1, 1) := by decide +kernel
theorem dX5_changed_1 : decode cX5_changed 1 = .ok (.ifCond .ge 13, 3) := by decide +kernel
theorem dX5_changed_4 : decode cX5_changed 4 = .ok (.new 108, 3) := by decide +kernel
theorem dX5_changed_7 : decode cX5_changed 7 = .ok (.dup, 1) := by decide +kernel
theorem dX5_changed_8 : decode cX5_changed 8 = .ok (.ldc 188, 2) := by decide +kernel
theorem dX5_changed_10 : decode cX5_changed 10 = .ok (.invokespecial 112, 3) := by decide +kernel
theorem dX5_changed_13 : decode cX5_changed 13 = .ok (.athrow, 1) := by decide +kernel
theorem dX5_changed_14 : decode cX5_changed 14 = .ok (.iload_n 2, 1) := by decide +kernel
theorem dX5_changed_15 : decode cX5_changed 15 = .ok (.iconst 0, 1) := by decide +kernel
theorem dX5_changed_16 : decode cX5_changed 16 = .ok (.iconst 5, 1) := by decide +kernel
theorem dX5_changed_17 : decode cX5_changed 17 = .ok (.invokestatic 81, 3) := by decide +kernel
theorem dX5_changed_20 : decode cX5_changed 20 = .ok (.iconst 0, 1) := by decide +kernel
theorem dX5_changed_21 : decode cX5_changed 21 = .ok (.istore_n 3, 1) := by decide +kernel
theorem dX5_changed_22 : decode cX5_changed 22 = .ok (.iconst 0, 1) := by decide +kernel
theorem dX5_changed_23 : decode cX5_changed 23 = .ok (.istore 4, 2) := by decide +kernel
theorem dX5_changed_25 : decode cX5_changed 25 = .ok (.iload 4, 2) := by decide +kernel
theorem dX5_changed_27 : decode cX5_changed 27 = .ok (.aload_n 0, 1) := by decide +kernel
theorem dX5_changed_28 : decode cX5_changed 28 = .ok (.getfield 22, 3) := by decide +kernel
theorem dX5_changed_31 : decode cX5_changed 31 = .ok (.invokevirtual 90, 3) := by decide +kernel
theorem dX5_changed_34 : decode cX5_changed 34 = .ok (.if_icmp .ge 49, 3) := by decide +kernel
theorem dX5_changed_37 : decode cX5_changed 37 = .ok (.aload_n 0, 1) := by decide +kernel
theorem dX5_changed_38 : decode cX5_changed 38 = .ok (.getfield 22, 3) := by decide +kernel
theorem dX5_changed_41 : decode cX5_changed 41 = .ok (.iload 4, 2) := by decide +kernel
theorem dX5_changed_43 : decode cX5_changed 43 = .ok (.invokevirtual 60, 3) := by decide +kernel
theorem dX5_changed_46 : decode cX5_changed 46 = .ok (.checkcast 166, 3) := by decide +kernel
theorem dX5_changed_49 : decode cX5_changed 49 = .ok (.astore 5, 2) := by decide +kernel
theorem dX5_changed_51 : decode cX5_changed 51 = .ok (.aload 5, 2) := by decide +kernel
theorem dX5_changed_53 : decode cX5_changed 53 = .ok (.getfield 190, 3) := by decide +kernel
theorem dX5_changed_56 : decode cX5_changed 56 = .ok (.iload_n 1, 1) := by decide +kernel
theorem dX5_changed_57 : decode cX5_changed 57 = .ok (.if_icmp .ne 20, 3) := by decide +kernel
theorem dX5_changed_60 : decode cX5_changed 60 = .ok (.aload 5, 2) := by decide +kernel
theorem dX5_changed_62 : decode cX5_changed 62 = .ok (.getfield 185, 3) := by decide +kernel
theorem dX5_changed_65 : decode cX5_changed 65 = .ok (.iload_n 2, 1) := by decide +kernel
theorem dX5_changed_66 : decode cX5_changed 66 = .ok (.if_icmp .ne 11, 3) := by decide +kernel
theorem dX5_changed_69 : decode cX5_changed 69 = .ok (.iload_n 3, 1) := by decide +kernel
theorem dX5_changed_70 : decode cX5_changed 70 = .ok (.aload 5, 2) := by decide +kernel
theorem dX5_changed_72 : decode cX5_changed 72 = .ok (.getfield 172, 3) := by decide +kernel
theorem dX5_changed_75 : decode cX5_changed 75 = .ok (.iadd, 1) := by decide +kernel
theorem dX5_changed_76 : decode cX5_changed 76 = .ok (.istore_n 3, 1) := by decide +kernel
theorem dX5_changed_77 : decode cX5_changed 77 = .ok (.iinc 4 1, 3) := by decide +kernel
theorem dX5_changed_80 : decode cX5_changed 80 = .ok (.goto (-55), 3) := by decide +kernel
theorem dX5_changed_83 : decode cX5_changed 83 = .ok (.iload_n 3, 1) := by decide +kernel
theorem dX5_changed_84 : decode cX5_changed 84 = .ok (.ireturn, 1) := by decide +kernel
set_option maxRecDepth 20000 in
theorem ggX5_requireDepot_Jx4a65c_size_8abf5 : GoodIn wsX5_requireDepot wsJx4a65c_size_8abf5 := goodIn_r _ [6, 7, 21, 22, 23] (by decide +kernel) (by decide +kernel)
set_option maxRecDepth 20000 in
theorem gX5_requireDepot_Jx4a65c_size_8abf5 : GoodIn wsX5_requireDepot (wsV RX5 90 RJx4a65c yJx4a65c_size_8abf5 wsJx4a65c_size_8abf5) := goodIn_app (goodIn_of _ (by decide +kernel)) ggX5_requireDepot_Jx4a65c_size_8abf5
set_option maxRecDepth 20000 in
theorem ggX5_requireDepot_X5_requireIndex : GoodIn wsX5_requireDepot wsX5_requireIndex := goodIn_ca (goodIn_r _ [11, 12, 13] (by decide +kernel) (by decide +kernel)) (goodIn_sub (fun _ h => List.mem_cons_of_mem _ (List.mem_append_right _ h)) (by decide +kernel))
set_option maxRecDepth 20000 in
theorem gX5_requireDepot_X5_requireIndex : GoodIn wsX5_requireDepot (va_wsS RX5 191 yX5_requireIndex wsX5_requireIndex) := goodIn_app (goodIn_of _ (by decide +kernel)) ggX5_requireDepot_X5_requireIndex
theorem dX5_requireDepot_0 : decode cX5_requireDepot 0 = .ok (.iload_n 1, 1) := by decide +kernel
theorem dX5_requireDepot_1 : decode cX5_requireDepot 1 = .ok (.aload_n 0, 1) := by decide +kernel
theorem dX5_requireDepot_2 : decode cX5_requireDepot 2 = .ok (.getfield 10, 3) := by decide +kernel
theorem dX5_requireDepot_5 : decode cX5_requireDepot 5 = .ok (.invokevirtual 90, 3) := by decide +kernel
theorem dX5_requireDepot_8 : decode cX5_requireDepot 8 = .ok (.invokestatic 191, 3) := by decide +kernel
theorem dX5_requireDepot_11 : decode cX5_requireDepot 11 = .ok (.return_, 1) := by decide +kernel
set_option maxRecDepth 20000 in
theorem ggX5_requireGood_X5_requireIndex : GoodIn wsX5_requireGood wsX5_requireIndex := goodIn_ca (goodIn_r _ [4, 5, 6] (by decide +kernel) (by decide +kernel)) (goodIn_sub (fun _ h => List.mem_cons_of_mem _ (List.mem_append_right _ h)) (by decide +kernel))
set_option maxRecDepth 20000 in
theorem gX5_requireGood_X5_requireIndex : GoodIn wsX5_requireGood (va_wsS RX5 191 yX5_requireIndex wsX5_requireIndex) := goodIn_app (goodIn_of _ (by decide +kernel)) ggX5_requireGood_X5_requireIndex
theorem dX5_requireGood_0 : decode cX5_requireGood 0 = .ok (.iload_n 1, 1) := by decide +kernel
theorem dX5_requireGood_1 : decode cX5_requireGood 1 = .ok (.iconst 5, 1) := by decide +kernel
theorem dX5_requireGood_2 : decode cX5_requireGood 2 = .ok (.invokestatic 191, 3) := by decide +kernel
theorem dX5_requireGood_5 : decode cX5_requireGood 5 = .ok (.return_, 1) := by decide +kernel
set_option maxRecDepth 20000 in
theorem ggX5_requireLot_Jx4a65c_size_8abf5 : GoodIn wsX5_requireLot wsJx4a65c_size_8abf5 := goodIn_r _ [6, 7, 21, 22, 23] (by decide +kernel) (by decide +kernel)
set_option maxRecDepth 20000 in
theorem gX5_requireLot_Jx4a65c_size_8abf5 : GoodIn wsX5_requireLot (wsV RX5 90 RJx4a65c yJx4a65c_size_8abf5 wsJx4a65c_size_8abf5) := goodIn_app (goodIn_of _ (by decide +kernel)) ggX5_requireLot_Jx4a65c_size_8abf5
set_option maxRecDepth 20000 in
theorem ggX5_requireLot_X5_requireIndex : GoodIn wsX5_requireLot wsX5_requireIndex := goodIn_ca (goodIn_r _ [11, 12, 13] (by decide +kernel) (by decide +kernel)) (goodIn_sub (fun _ h => List.mem_cons_of_mem _ (List.mem_append_right _ h)) (by decide +kernel))
set_option maxRecDepth 20000 in
theorem gX5_requireLot_X5_requireIndex : GoodIn wsX5_requireLot (va_wsS RX5 191 yX5_requireIndex wsX5_requireIndex) := goodIn_app (goodIn_of _ (by decide +kernel)) ggX5_requireLot_X5_requireIndex
theorem dX5_requireLot_0 : decode cX5_requireLot 0 = .ok (.iload_n 1, 1) := by decide +kernel
theorem dX5_requireLot_1 : decode cX5_requireLot 1 = .ok (.aload_n 0, 1) := by decide +kernel
theorem dX5_requireLot_2 : decode cX5_requireLot 2 = .ok (.getfield 16, 3) := by decide +kernel
theorem dX5_requireLot_5 : decode cX5_requireLot 5 = .ok (.invokevirtual 90, 3) := by decide +kernel
theorem dX5_requireLot_8 : decode cX5_requireLot 8 = .ok (.invokestatic 191, 3) := by decide +kernel
theorem dX5_requireLot_11 : decode cX5_requireLot 11 = .ok (.return_, 1) := by decide +kernel
set_option maxRecDepth 20000 in
theorem ggX5_requireWork_Jx4a65c_size_8abf5 : GoodIn wsX5_requireWork wsJx4a65c_size_8abf5 := goodIn_r _ [6, 7, 21, 22, 23] (by decide +kernel) (by decide +kernel)
set_option maxRecDepth 20000 in
theorem gX5_requireWork_Jx4a65c_size_8abf5 : GoodIn wsX5_requireWork (wsV RX5 90 RJx4a65c yJx4a65c_size_8abf5 wsJx4a65c_size_8abf5) := goodIn_app (goodIn_of _ (by decide +kernel)) ggX5_requireWork_Jx4a65c_size_8abf5
set_option maxRecDepth 20000 in
theorem ggX5_requireWork_X5_requireIndex : GoodIn wsX5_requireWork wsX5_requireIndex := goodIn_ca (goodIn_r _ [11, 12, 13] (by decide +kernel) (by decide +kernel)) (goodIn_sub (fun _ h => List.mem_cons_of_mem _ (List.mem_append_right _ h)) (by decide +kernel))
set_option maxRecDepth 20000 in
theorem gX5_requireWork_X5_requireIndex : GoodIn wsX5_requireWork (va_wsS RX5 191 yX5_requireIndex wsX5_requireIndex) := goodIn_app (goodIn_of _ (by decide +kernel)) ggX5_requireWork_X5_requireIndex
theorem dX5_requireWork_0 : decode cX5_requireWork 0 = .ok (.iload_n 1, 1) := by decide +kernel
theorem dX5_requireWork_1 : decode cX5_requireWork 1 = .ok (.aload_n 0, 1) := by decide +kernel
theorem dX5_requireWork_2 : decode cX5_requireWork 2 = .ok (.getfield 19, 3) := by decide +kernel
theorem dX5_requireWork_5 : decode cX5_requireWork 5 = .ok (.invokevirtual 90, 3) := by decide +kernel
theorem dX5_requireWork_8 : decode cX5_requireWork 8 = .ok (.invokestatic 191, 3) := by decide +kernel
theorem dX5_requireWork_11 : decode cX5_requireWork 11 = .ok (.return_, 1) := by decide +kernel
set_option maxRecDepth 20000 in
theorem ggX5_requireEntry_Jx4a65c_size_8abf5 : GoodIn wsX5_requireEntry wsJx4a65c_size_8abf5 := goodIn_r _ [6, 7, 21, 22, 23] (by decide +kernel) (by decide +kernel)
set_option maxRecDepth 20000 in
theorem gX5_requireEntry_Jx4a65c_size_8abf5 : GoodIn wsX5_requireEntry (wsV RX5 90 RJx4a65c yJx4a65c_size_8abf5 wsJx4a65c_size_8abf5) := goodIn_app (goodIn_of _ (by decide +kernel)) ggX5_requireEntry_Jx4a65c_size_8abf5
set_option maxRecDepth 20000 in
theorem ggX5_requireEntry_X5_requireIndex : GoodIn wsX5_requireEntry wsX5_requireIndex := goodIn_ca (goodIn_r _ [11, 12, 13] (by decide +kernel) (by decide +kernel)) (goodIn_sub (fun _ h => List.mem_cons_of_mem _ (List.mem_append_right _ h)) (by decide +kernel))
set_option maxRecDepth 20000 in
theorem gX5_requireEntry_X5_requireIndex : GoodIn wsX5_requireEntry (va_wsS RX5 191 yX5_requireIndex wsX5_requireIndex) := goodIn_app (goodIn_of _ (by decide +kernel)) ggX5_requireEntry_X5_requireIndex
theorem dX5_requireEntry_0 : decode cX5_requireEntry 0 = .ok (.iload_n 1, 1) := by decide +kernel
theorem dX5_requireEntry_1 : decode cX5_requireEntry 1 = .ok (.aload_n 0, 1) := by decide +kernel
theorem dX5_requireEntry_2 : decode cX5_requireEntry 2 = .ok (.getfield 22, 3) := by decide +kernel
theorem dX5_requireEntry_5 : decode cX5_requireEntry 5 = .ok (.invokevirtual 90, 3) := by decide +kernel
theorem dX5_requireEntry_8 : decode cX5_requireEntry 8 = .ok (.invokestatic 191, 3) := by decide +kernel
theorem dX5_requireEntry_11 : decode cX5_requireEntry 11 = .ok (.return_, 1) := by decide +kernel
theorem dX5_requireIndex_0 : decode cX5_requireIndex 0 = .ok (.iload_n 0, 1) := by decide +kernel
theorem dX5_requireIndex_1 : decode cX5_requireIndex 1 = .ok (.ifCond .lt 8, 3) := by decide +kernel
theorem dX5_requireIndex_4 : decode cX5_requireIndex 4 = .ok (.iload_n 0, 1) := by decide +kernel
theorem dX5_requireIndex_5 : decode cX5_requireIndex 5 = .ok (.iload_n 1, 1) := by decide +kernel
theorem dX5_requireIndex_6 : decode cX5_requireIndex 6 = .ok (.if_icmp .lt 13, 3) := by decide +kernel
theorem dX5_requireIndex_9 : decode cX5_requireIndex 9 = .ok (.new 194, 3) := by decide +kernel
theorem dX5_requireIndex_12 : decode cX5_requireIndex 12 = .ok (.dup, 1) := by decide +kernel
theorem dX5_requireIndex_13 : decode cX5_requireIndex 13 = .ok (.ldc 196, 2) := by decide +kernel
theorem dX5_requireIndex_15 : decode cX5_requireIndex 15 = .ok (.invokespecial 198, 3) := by decide +kernel
theorem dX5_requireIndex_18 : decode cX5_requireIndex 18 = .ok (.athrow, 1) := by decide +kernel
theorem dX5_requireIndex_19 : decode cX5_requireIndex 19 = .ok (.return_, 1) := by decide +kernel
theorem dX5_requireRange_0 : decode cX5_requireRange 0 = .ok (.iload_n 0, 1) := by decide +kernel
theorem dX5_requireRange_1 : decode cX5_requireRange 1 = .ok (.iload_n 1, 1) := by decide +kernel
theorem dX5_requireRange_2 : decode cX5_requireRange 2 = .ok (.if_icmp .lt 8, 3) := by decide +kernel
theorem dX5_requireRange_5 : decode cX5_requireRange 5 = .ok (.iload_n 0, 1) := by decide +kernel
theorem dX5_requireRange_6 : decode cX5_requireRange 6 = .ok (.iload_n 2, 1) := by decide +kernel
theorem dX5_requireRange_7 : decode cX5_requireRange 7 = .ok (.if_icmp .le 13, 3) := by decide +kernel
theorem dX5_requireRange_10 : decode cX5_requireRange 10 = .ok (.new 108, 3) := by decide +kernel
theorem dX5_requireRange_13 : decode cX5_requireRange 13 = .ok (.dup, 1) := by decide +kernel
theorem dX5_requireRange_14 : decode cX5_requireRange 14 = .ok (.ldc 199, 2) := by decide +kernel
theorem dX5_requireRange_16 : decode cX5_requireRange 16 = .ok (.invokespecial 112, 3) := by decide +kernel
theorem dX5_requireRange_19 : decode cX5_requireRange 19 = .ok (.athrow, 1) := by decide +kernel
theorem dX5_requireRange_20 : decode cX5_requireRange 20 = .ok (.return_, 1) := by decide +kernel
set_option maxRecDepth 20000 in
theorem ggX5_requireDays_X5_requireRange : GoodIn wsX5_requireDays wsX5_requireRange := goodIn_ca (goodIn_r _ [4, 5, 6] (by decide +kernel) (by decide +kernel)) (goodIn_sub (fun _ h => List.mem_cons_of_mem _ (List.mem_append_right _ h)) (by decide +kernel))
set_option maxRecDepth 20000 in
theorem gX5_requireDays_X5_requireRange : GoodIn wsX5_requireDays (va_wsS RX5 81 yX5_requireRange wsX5_requireRange) := goodIn_app (goodIn_of _ (by decide +kernel)) ggX5_requireDays_X5_requireRange
theorem dX5_requireDays_0 : decode cX5_requireDays 0 = .ok (.iload_n 0, 1) := by decide +kernel
theorem dX5_requireDays_1 : decode cX5_requireDays 1 = .ok (.iconst 0, 1) := by decide +kernel
theorem dX5_requireDays_2 : decode cX5_requireDays 2 = .ok (.sipush 1000, 3) := by decide +kernel
theorem dX5_requireDays_5 : decode cX5_requireDays 5 = .ok (.invokestatic 81, 3) := by decide +kernel
theorem dX5_requireDays_8 : decode cX5_requireDays 8 = .ok (.iload_n 1, 1) := by decide +kernel
theorem dX5_requireDays_9 : decode cX5_requireDays 9 = .ok (.iconst (-1), 1) := by decide +kernel
theorem dX5_requireDays_10 : decode cX5_requireDays 10 = .ok (.if_icmp .eq 11, 3) := by decide +kernel
theorem dX5_requireDays_13 : decode cX5_requireDays 13 = .ok (.iload_n 1, 1) := by decide +kernel
theorem dX5_requireDays_14 : decode cX5_requireDays 14 = .ok (.iload_n 0, 1) := by decide +kernel
theorem dX5_requireDays_15 : decode cX5_requireDays 15 = .ok (.sipush 1000, 3) := by decide +kernel
theorem dX5_requireDays_18 : decode cX5_requireDays 18 = .ok (.invokestatic 81, 3) := by decide +kernel
theorem dX5_requireDays_21 : decode cX5_requireDays 21 = .ok (.return_, 1) := by decide +kernel
set_option maxRecDepth 20000 in
theorem ggX5_requireReached_X0_include : GoodIn wsX5_requireReached wsX0_include := goodIn_r _ [9, 10, 11, 22, 23] (by decide +kernel) (by decide +kernel)
set_option maxRecDepth 20000 in
theorem gX5_requireReached_X0_include : GoodIn wsX5_requireReached (wsV RX5 70 RX0 yX0_include wsX0_include) := goodIn_app (goodIn_of _ (by decide +kernel)) ggX5_requireReached_X0_include
theorem dX5_requireReached_0 : decode cX5_requireReached 0 = .ok (.aload_n 1, 1) := by decide +kernel
theorem dX5_requireReached_1 : decode cX5_requireReached 1 = .ok (.getfield 64, 3) := by decide +kernel
theorem dX5_requireReached_4 : decode cX5_requireReached 4 = .ok (.aload_n 0, 1) := by decide +kernel
theorem dX5_requireReached_5 : decode cX5_requireReached 5 = .ok (.getfield 32, 3) := by decide +kernel
theorem dX5_requireReached_8 : decode cX5_requireReached 8 = .ok (.invokevirtual 70, 3) := by decide +kernel
theorem dX5_requireReached_11 : decode cX5_requireReached 11 = .ok (.ifCond .eq 13, 3) := by decide +kernel
theorem dX5_requireReached_14 : decode cX5_requireReached 14 = .ok (.new 122, 3) := by decide +kernel
theorem dX5_requireReached_17 : decode cX5_requireReached 17 = .ok (.dup, 1) := by decide +kernel
theorem dX5_requireReached_18 : decode cX5_requireReached 18 = .ok (.ldc 201, 2) := by decide +kernel
theorem dX5_requireReached_20 : decode cX5_requireReached 20 = .ok (.invokespecial 126, 3) := by decide +kernel
theorem dX5_requireReached_23 : decode cX5_requireReached 23 = .ok (.athrow, 1) := by decide +kernel
theorem dX5_requireReached_24 : decode cX5_requireReached 24 = .ok (.return_, 1) := by decide +kernel
set_option maxRecDepth 20000 in
theorem ggX5_requireRoomForLot_Jx4a65c_size_8abf5 : GoodIn wsX5_requireRoomForLot wsJx4a65c_size_8abf5 := goodIn_r _ [8, 9, 17, 18, 19] (by decide +kernel) (by decide +kernel)
set_option maxRecDepth 20000 in
theorem gX5_requireRoomForLot_Jx4a65c_size_8abf5 : GoodIn wsX5_requireRoomForLot (wsV RX5 90 RJx4a65c yJx4a65c_size_8abf5 wsJx4a65c_size_8abf5) := goodIn_app (goodIn_of _ (by decide +kernel)) ggX5_requireRoomForLot_Jx4a65c_size_8abf5
theorem dX5_requireRoomForLot_0 : decode cX5_requireRoomForLot 0 = .ok (.aload_n 0, 1) := by decide +kernel
theorem dX5_requireRoomForLot_1 : decode cX5_requireRoomForLot 1 = .ok (.getfield 16, 3) := by decide +kernel
theorem dX5_requireRoomForLot_4 : decode cX5_requireRoomForLot 4 = .ok (.invokevirtual 90, 3) := by decide +kernel
theorem dX5_requireRoomForLot_7 : decode cX5_requireRoomForLot 7 = .ok (.bipush 40, 2) := by decide +kernel
theorem dX5_requireRoomForLot_9 : decode cX5_requireRoomForLot 9 = .ok (.if_icmp .lt 13, 3) := by decide +kernel
theorem dX5_requireRoomForLot_12 : decode cX5_requireRoomForLot 12 = .ok (.new 122, 3) := by decide +kernel
theorem dX5_requireRoomForLot_15 : decode cX5_requireRoomForLot 15 = .ok (.dup, 1) := by decide +kernel
theorem dX5_requireRoomForLot_16 : decode cX5_requireRoomForLot 16 = .ok (.ldc 203, 2) := by decide +kernel
theorem dX5_requireRoomForLot_18 : decode cX5_requireRoomForLot 18 = .ok (.invokespecial 126, 3) := by decide +kernel
theorem dX5_requireRoomForLot_21 : decode cX5_requireRoomForLot 21 = .ok (.athrow, 1) := by decide +kernel
theorem dX5_requireRoomForLot_22 : decode cX5_requireRoomForLot 22 = .ok (.return_, 1) := by decide +kernel
set_option maxRecDepth 20000 in
theorem ggX5_addLot_Jx4a65c_add_9ea2d : GoodIn wsX5_addLot wsJx4a65c_add_9ea2d := goodIn_r _ [7, 8, 9, 10, 11, 12, 13, 14, 6, 15, 16, 17, 18, 19, 20, 21, 22, 23, 24, 25, 26, 27, 28, 29, 30, 31, 32, 33, 34, 35, 36, 37, 38, 39, 40, 41, 42, 43, 44, 45, 46, 47, 48, 49, 50, 51, 52, 53, 54, 55, 56, 57, 58, 97, 98, 99] (by decide +kernel) (by decide +kernel)
set_option maxRecDepth 20000 in
theorem gX5_addLot_Jx4a65c_add_9ea2d : GoodIn wsX5_addLot (wsV RX5 44 RJx4a65c yJx4a65c_add_9ea2d wsJx4a65c_add_9ea2d) := goodIn_app (goodIn_of _ (by decide +kernel)) ggX5_addLot_Jx4a65c_add_9ea2d
set_option maxRecDepth 20000 in
theorem ggX5_addLot_X5_changeAmount : GoodIn wsX5_addLot wsX5_changeAmount := goodIn_r _ [63, 64, 65, 66, 67, 68, 69, 70, 71, 72, 73, 6, 74, 11, 75, 76, 77, 78, 79, 80, 81, 82, 83, 84, 3, 4, 5, 7, 8, 9, 10, 12, 13, 14, 15, 16, 17, 18, 19, 20, 21, 22, 23, 24, 25, 26, 27, 28, 29, 30, 31, 32, 33, 34, 35, 36, 37, 38, 39, 40, 41, 42, 43, 44, 45, 46, 47, 48, 49, 50, 51, 52, 53, 54, 55, 56, 57, 58, 92, 93, 94, 95, 96, 85, 86, 87, 88, 89, 90, 91, 100, 101, 102, 103, 97, 98, 99] (by decide +kernel) (by decide +kernel)
set_option maxRecDepth 20000 in
theorem gX5_addLot_X5_changeAmount : GoodIn wsX5_addLot (wsV RX5 127 RX5 yX5_changeAmount wsX5_changeAmount) := goodIn_app (goodIn_of _ (by decide +kernel)) ggX5_addLot_X5_changeAmount
theorem dX5_addLot_0 : decode cX5_addLot 0 = .ok (.aload_n 0, 1) := by decide +kernel
theorem dX5_addLot_1 : decode cX5_addLot 1 = .ok (.getfield 16, 3) := by decide +kernel
theorem dX5_addLot_4 : decode cX5_addLot 4 = .ok (.aload_n 1, 1) := by decide +kernel
theorem dX5_addLot_5 : decode cX5_addLot 5 = .ok (.invokevirtual 44, 3) := by decide +kernel
theorem dX5_addLot_8 : decode cX5_addLot 8 = .ok (.pop, 1) := by decide +kernel
theorem dX5_addLot_9 : decode cX5_addLot 9 = .ok (.aload_n 0, 1) := by decide +kernel
theorem dX5_addLot_10 : decode cX5_addLot 10 = .ok (.aload_n 1, 1) := by decide +kernel
theorem dX5_addLot_11 : decode cX5_addLot 11 = .ok (.iload_n 2, 1) := by decide +kernel
theorem dX5_addLot_12 : decode cX5_addLot 12 = .ok (.iload_n 3, 1) := by decide +kernel
theorem dX5_addLot_13 : decode cX5_addLot 13 = .ok (.invokevirtual 127, 3) := by decide +kernel
theorem dX5_addLot_16 : decode cX5_addLot 16 = .ok (.aload_n 1, 1) := by decide +kernel
theorem dX5_addLot_17 : decode cX5_addLot 17 = .ok (.getfield 184, 3) := by decide +kernel
theorem dX5_addLot_20 : decode cX5_addLot 20 = .ok (.ireturn, 1) := by decide +kernel
set_option maxRecDepth 20000 in
theorem ggX5_changeAmount_Jx4a65c_size_8abf5 : GoodIn wsX5_changeAmount wsJx4a65c_size_8abf5 := goodIn_r _ [12, 13, 94, 95, 96] (by decide +kernel) (by decide +kernel)
set_option maxRecDepth 20000 in
theorem gX5_changeAmount_Jx4a65c_size_8abf5 : GoodIn wsX5_changeAmount (wsV RX5 90 RJx4a65c yJx4a65c_size_8abf5 wsJx4a65c_size_8abf5) := goodIn_app (goodIn_of _ (by decide +kernel)) ggX5_changeAmount_Jx4a65c_size_8abf5
set_option maxRecDepth 20000 in
theorem ggX5_changeAmount_X2_init : GoodIn wsX5_changeAmount wsX2_init := goodIn_r _ [16, 17, 18, 19, 20, 21, 22, 23, 90, 91, 92, 93] (by decide +kernel) (by decide +kernel)
set_option maxRecDepth 20000 in
theorem gX5_changeAmount_X2_init : GoodIn wsX5_changeAmount (wsX2_init) := ggX5_changeAmount_X2_init
set_option maxRecDepth 20000 in
theorem ggX5_changeAmount_Jx4a65c_add_9ea2d : GoodIn wsX5_changeAmount wsJx4a65c_add_9ea2d := goodIn_r _ [27, 28, 29, 30, 13, 31, 32, 33, 11, 34, 35, 36, 37, 38, 39, 40, 41, 42, 43, 44, 45, 46, 47, 48, 49, 50, 51, 52, 53, 54, 55, 56, 57, 58, 59, 60, 61, 62, 63, 64, 65, 66, 67, 68, 69, 70, 71, 72, 73, 74, 75, 76, 77, 94, 95, 96] (by decide +kernel) (by decide +kernel)
set_option maxRecDepth 20000 in
theorem gX5_changeAmount_Jx4a65c_add_9ea2d : GoodIn wsX5_changeAmount (wsV RX5 44 RJx4a65c yJx4a65c_add_9ea2d wsJx4a65c_add_9ea2d) := goodIn_app (goodIn_of _ (by decide +kernel)) ggX5_changeAmount_Jx4a65c_add_9ea2d
theorem dX5_changeAmount_0 : decode cX5_changeAmount 0 = .ok (.iload_n 2, 1) := by decide +kernel
theorem dX5_changeAmount_1 : decode cX5_changeAmount 1 = .ok (.ifCond .ne 4, 3) := by decide +kernel
theorem dX5_changeAmount_4 : decode cX5_changeAmount 4 = .ok (.return_, 1) := by decide +kernel
theorem dX5_changeAmount_5 : decode cX5_changeAmount 5 = .ok (.aload_n 1, 1) := by decide +kernel
theorem dX5_changeAmount_6 : decode cX5_changeAmount 6 = .ok (.dup, 1) := by decide +kernel
theorem dX5_changeAmount_7 : decode cX5_changeAmount 7 = .ok (.getfield 119, 3) := by decide +kernel
theorem dX5_changeAmount_10 : decode cX5_changeAmount 10 = .ok (.iload_n 2, 1) := by decide +kernel
theorem dX5_changeAmount_11 : decode cX5_changeAmount 11 = .ok (.iadd, 1) := by decide +kernel
theorem dX5_changeAmount_12 : decode cX5_changeAmount 12 = .ok (.putfield 119, 3) := by decide +kernel
theorem dX5_changeAmount_15 : decode cX5_changeAmount 15 = .ok (.aload_n 0, 1) := by decide +kernel
theorem dX5_changeAmount_16 : decode cX5_changeAmount 16 = .ok (.getfield 22, 3) := by decide +kernel
theorem dX5_changeAmount_19 : decode cX5_changeAmount 19 = .ok (.invokevirtual 90, 3) := by decide +kernel
theorem dX5_changeAmount_22 : decode cX5_changeAmount 22 = .ok (.ldc 205, 2) := by decide +kernel
theorem dX5_changeAmount_24 : decode cX5_changeAmount 24 = .ok (.if_icmp .ge 25, 3) := by decide +kernel
theorem dX5_changeAmount_27 : decode cX5_changeAmount 27 = .ok (.aload_n 0, 1) := by decide +kernel
theorem dX5_changeAmount_28 : decode cX5_changeAmount 28 = .ok (.getfield 22, 3) := by decide +kernel
theorem dX5_changeAmount_31 : decode cX5_changeAmount 31 = .ok (.new 166, 3) := by decide +kernel
theorem dX5_changeAmount_34 : decode cX5_changeAmount 34 = .ok (.dup, 1) := by decide +kernel
theorem dX5_changeAmount_35 : decode cX5_changeAmount 35 = .ok (.aload_n 0, 1) := by decide +kernel
theorem dX5_changeAmount_36 : decode cX5_changeAmount 36 = .ok (.getfield 36, 3) := by decide +kernel
theorem dX5_changeAmount_39 : decode cX5_changeAmount 39 = .ok (.aload_n 1, 1) := by decide +kernel
theorem dX5_changeAmount_40 : decode cX5_changeAmount 40 = .ok (.iload_n 2, 1) := by decide +kernel
theorem dX5_changeAmount_41 : decode cX5_changeAmount 41 = .ok (.iload_n 3, 1) := by decide +kernel
theorem dX5_changeAmount_42 : decode cX5_changeAmount 42 = .ok (.invokespecial 206, 3) := by decide +kernel
theorem dX5_changeAmount_45 : decode cX5_changeAmount 45 = .ok (.invokevirtual 44, 3) := by decide +kernel
theorem dX5_changeAmount_48 : decode cX5_changeAmount 48 = .ok (.pop, 1) := by decide +kernel
theorem dX5_changeAmount_49 : decode cX5_changeAmount 49 = .ok (.return_, 1) := by decide +kernel
set_option maxRecDepth 20000 in
theorem ggX5_throwAwayOld_Jx4a65c_size_8abf5 : GoodIn wsX5_throwAwayOld wsJx4a65c_size_8abf5 := goodIn_r _ [10, 11, 115, 116, 117] (by decide +kernel) (by decide +kernel)
set_option maxRecDepth 20000 in
theorem gX5_throwAwayOld_Jx4a65c_size_8abf5 : GoodIn wsX5_throwAwayOld (wsV RX5 90 RJx4a65c yJx4a65c_size_8abf5 wsJx4a65c_size_8abf5) := goodIn_app (goodIn_of _ (by decide +kernel)) ggX5_throwAwayOld_Jx4a65c_size_8abf5
set_option maxRecDepth 20000 in
theorem ggX5_throwAwayOld_Jx4a65c_get_915e3 : GoodIn wsX5_throwAwayOld wsJx4a65c_get_915e3 := goodIn_r _ [15, 11, 16, 17, 18, 19, 20, 21, 22, 23, 24, 25, 26, 9, 27, 28, 115, 116, 117] (by decide +kernel) (by decide +kernel)
set_option maxRecDepth 20000 in
theorem gX5_throwAwayOld_Jx4a65c_get_915e3 : GoodIn wsX5_throwAwayOld (wsV RX5 60 RJx4a65c yJx4a65c_get_915e3 wsJx4a65c_get_915e3) := goodIn_app (goodIn_of _ (by decide +kernel)) ggX5_throwAwayOld_Jx4a65c_get_915e3
set_option maxRecDepth 20000 in
theorem ggX5_throwAwayOld_X5_changeAmount : GoodIn wsX5_throwAwayOld wsX5_changeAmount := goodIn_r _ [33, 5, 34, 35, 36, 37, 38, 39, 6, 7, 8, 9, 10, 11, 40, 41, 42, 43, 44, 45, 46, 47, 48, 49, 50, 51, 52, 53, 54, 55, 28, 56, 57, 58, 59, 60, 61, 62, 63, 64, 65, 66, 67, 68, 69, 70, 71, 72, 73, 74, 75, 76, 77, 78, 79, 80, 81, 82, 83, 84, 85, 86, 87, 88, 89, 90, 91, 92, 93, 94, 95, 96, 97, 98, 99, 100, 101, 102, 110, 111, 112, 113, 114, 103, 104, 105, 106, 107, 108, 109, 118, 119, 120, 121, 115, 116, 117] (by decide +kernel) (by decide +kernel)
set_option maxRecDepth 20000 in
theorem gX5_throwAwayOld_X5_changeAmount : GoodIn wsX5_throwAwayOld (wsV RX5 127 RX5 yX5_changeAmount wsX5_changeAmount) := goodIn_app (goodIn_of _ (by decide +kernel)) ggX5_throwAwayOld_X5_changeAmount
theorem dX5_throwAwayOld_0 : decode cX5_throwAwayOld 0 = .ok (.iconst 0, 1) := by decide +kernel
theorem dX5_throwAwayOld_1 : decode cX5_throwAwayOld 1 = .ok (.istore_n 1, 1) := by decide +kernel
theorem dX5_throwAwayOld_2 : decode cX5_throwAwayOld 2 = .ok (.iload_n 1, 1) := by decide +kernel
theorem dX5_throwAwayOld_3 : decode cX5_throwAwayOld 3 = .ok (.aload_n 0, 1) := by decide +kernel
theorem dX5_throwAwayOld_4 : decode cX5_throwAwayOld 4 = .ok (.getfield 16, 3) := by decide +kernel
theorem dX5_throwAwayOld_7 : decode cX5_throwAwayOld 7 = .ok (.invokevirtual 90, 3) := by decide +kernel
theorem dX5_throwAwayOld_10 : decode cX5_throwAwayOld 10 = .ok (.if_icmp .ge 43, 3) := by decide +kernel
theorem dX5_throwAwayOld_13 : decode cX5_throwAwayOld 13 = .ok (.aload_n 0, 1) := by decide +kernel
theorem dX5_throwAwayOld_14 : decode cX5_throwAwayOld 14 = .ok (.getfield 16, 3) := by decide +kernel
theorem dX5_throwAwayOld_17 : decode cX5_throwAwayOld 17 = .ok (.iload_n 1, 1) := by decide +kernel
theorem dX5_throwAwayOld_18 : decode cX5_throwAwayOld 18 = .ok (.invokevirtual 60, 3) := by decide +kernel
theorem dX5_throwAwayOld_21 : decode cX5_throwAwayOld 21 = .ok (.checkcast 88, 3) := by decide +kernel
theorem dX5_throwAwayOld_24 : decode cX5_throwAwayOld 24 = .ok (.astore_n 2, 1) := by decide +kernel
theorem dX5_throwAwayOld_25 : decode cX5_throwAwayOld 25 = .ok (.aload_n 2, 1) := by decide +kernel
theorem dX5_throwAwayOld_26 : decode cX5_throwAwayOld 26 = .ok (.getfield 134, 3) := by decide +kernel
theorem dX5_throwAwayOld_29 : decode cX5_throwAwayOld 29 = .ok (.aload_n 0, 1) := by decide +kernel
theorem dX5_throwAwayOld_30 : decode cX5_throwAwayOld 30 = .ok (.getfield 32, 3) := by decide +kernel
theorem dX5_throwAwayOld_33 : decode cX5_throwAwayOld 33 = .ok (.if_icmp .ge 14, 3) := by decide +kernel
theorem dX5_throwAwayOld_36 : decode cX5_throwAwayOld 36 = .ok (.aload_n 0, 1) := by decide +kernel
theorem dX5_throwAwayOld_37 : decode cX5_throwAwayOld 37 = .ok (.aload_n 2, 1) := by decide +kernel
theorem dX5_throwAwayOld_38 : decode cX5_throwAwayOld 38 = .ok (.aload_n 2, 1) := by decide +kernel
theorem dX5_throwAwayOld_39 : decode cX5_throwAwayOld 39 = .ok (.getfield 119, 3) := by decide +kernel
theorem dX5_throwAwayOld_42 : decode cX5_throwAwayOld 42 = .ok (.ineg, 1) := by decide +kernel
theorem dX5_throwAwayOld_43 : decode cX5_throwAwayOld 43 = .ok (.iconst 4, 1) := by decide +kernel
theorem dX5_throwAwayOld_44 : decode cX5_throwAwayOld 44 = .ok (.invokevirtual 127, 3) := by decide +kernel
theorem dX5_throwAwayOld_47 : decode cX5_throwAwayOld 47 = .ok (.iinc 1 1, 3) := by decide +kernel
theorem dX5_throwAwayOld_50 : decode cX5_throwAwayOld 50 = .ok (.goto (-48), 3) := by decide +kernel
theorem dX5_throwAwayOld_53 : decode cX5_throwAwayOld 53 = .ok (.return_, 1) := by decide +kernel
set_option maxRecDepth 20000 in
theorem ggX5_freeze_X0_include : GoodIn wsX5_freeze wsX0_include := goodIn_r _ [13, 14, 15, 128, 129] (by decide +kernel) (by decide +kernel)
set_option maxRecDepth 20000 in
theorem gX5_freeze_X0_include : GoodIn wsX5_freeze (wsV RX5 70 RX0 yX0_include wsX0_include) := goodIn_app (goodIn_of _ (by decide +kernel)) ggX5_freeze_X0_include
set_option maxRecDepth 20000 in
theorem ggX5_freeze_Jx4a65c_size_8abf5 : GoodIn wsX5_freeze wsJx4a65c_size_8abf5 := goodIn_r _ [20, 21, 130, 131, 132] (by decide +kernel) (by decide +kernel)
set_option maxRecDepth 20000 in
theorem gX5_freeze_Jx4a65c_size_8abf5 : GoodIn wsX5_freeze (wsV RX5 90 RJx4a65c yJx4a65c_size_8abf5 wsJx4a65c_size_8abf5) := goodIn_app (goodIn_of _ (by decide +kernel)) ggX5_freeze_Jx4a65c_size_8abf5
set_option maxRecDepth 20000 in
theorem ggX5_freeze_Jx4a65c_get_915e3 : GoodIn wsX5_freeze wsJx4a65c_get_915e3 := goodIn_r _ [25, 21, 26, 27, 28, 29, 30, 31, 32, 33, 34, 35, 36, 19, 37, 38, 130, 131, 132] (by decide +kernel) (by decide +kernel)
set_option maxRecDepth 20000 in
theorem gX5_freeze_Jx4a65c_get_915e3 : GoodIn wsX5_freeze (wsV RX5 60 RJx4a65c yJx4a65c_get_915e3 wsJx4a65c_get_915e3) := goodIn_app (goodIn_of _ (by decide +kernel)) ggX5_freeze_Jx4a65c_get_915e3
set_option maxRecDepth 20000 in
theorem ggX5_freeze_X5_changeAmount : GoodIn wsX5_freeze wsX5_changeAmount := goodIn_r _ [43, 8, 44, 45, 46, 47, 48, 49, 16, 17, 18, 19, 20, 21, 50, 51, 52, 53, 54, 55, 56, 57, 58, 59, 60, 61, 62, 63, 64, 65, 38, 66, 67, 68, 69, 70, 71, 72, 73, 74, 75, 76, 77, 78, 79, 80, 81, 82, 83, 84, 85, 86, 87, 88, 89, 90, 91, 92, 93, 94, 95, 96, 97, 98, 99, 100, 101, 102, 103, 104, 105, 106, 107, 108, 109, 110, 111, 112, 120, 121, 122, 123, 124, 113, 114, 115, 116, 117, 118, 119, 133, 134, 135, 136, 130, 131, 132] (by decide +kernel) (by decide +kernel)
set_option maxRecDepth 20000 in
theorem gX5_freeze_X5_changeAmount : GoodIn wsX5_freeze (wsV RX5 127 RX5 yX5_changeAmount wsX5_changeAmount) := goodIn_app (goodIn_of _ (by decide +kernel)) ggX5_freeze_X5_changeAmount
theorem dX5_freeze_0 : decode cX5_freeze 0 = .ok (.aload_n 0, 1) := by decide +kernel
theorem dX5_freeze_1 : decode cX5_freeze 1 = .ok (.getfield 28, 3) := by decide +kernel
theorem dX5_freeze_4 : decode cX5_freeze 4 = .ok (.aload_n 0, 1) := by decide +kernel
theorem dX5_freeze_5 : decode cX5_freeze 5 = .ok (.getfield 32, 3) := by decide +kernel
theorem dX5_freeze_8 : decode cX5_freeze 8 = .ok (.invokevirtual 70, 3) := by decide +kernel
theorem dX5_freeze_11 : decode cX5_freeze 11 = .ok (.ifCond .ne 4, 3) := by decide +kernel
theorem dX5_freeze_14 : decode cX5_freeze 14 = .ok (.return_, 1) := by decide +kernel
theorem dX5_freeze_15 : decode cX5_freeze 15 = .ok (.iconst 0, 1) := by decide +kernel
theorem dX5_freeze_16 : decode cX5_freeze 16 = .ok (.istore_n 1, 1) := by decide +kernel
theorem dX5_freeze_17 : decode cX5_freeze 17 = .ok (.iload_n 1, 1) := by decide +kernel
theorem dX5_freeze_18 : decode cX5_freeze 18 = .ok (.aload_n 0, 1) := by decide +kernel
theorem dX5_freeze_19 : decode cX5_freeze 19 = .ok (.getfield 16, 3) := by decide +kernel
theorem dX5_freeze_22 : decode cX5_freeze 22 = .ok (.invokevirtual 90, 3) := by decide +kernel
theorem dX5_freeze_25 : decode cX5_freeze 25 = .ok (.if_icmp .ge 56, 3) := by decide +kernel
theorem dX5_freeze_28 : decode cX5_freeze 28 = .ok (.aload_n 0, 1) := by decide +kernel
theorem dX5_freeze_29 : decode cX5_freeze 29 = .ok (.getfield 16, 3) := by decide +kernel
theorem dX5_freeze_32 : decode cX5_freeze 32 = .ok (.iload_n 1, 1) := by decide +kernel
theorem dX5_freeze_33 : decode cX5_freeze 33 = .ok (.invokevirtual 60, 3) := by decide +kernel
theorem dX5_freeze_36 : decode cX5_freeze 36 = .ok (.checkcast 88, 3) := by decide +kernel
theorem dX5_freeze_39 : decode cX5_freeze 39 = .ok (.astore_n 2, 1) := by decide +kernel
theorem dX5_freeze_40 : decode cX5_freeze 40 = .ok (.aload_n 2, 1) := by decide +kernel
theorem dX5_freeze_41 : decode cX5_freeze 41 = .ok (.getfield 131, 3) := by decide +kernel
theorem dX5_freeze_44 : decode cX5_freeze 44 = .ok (.iconst 2, 1) := by decide +kernel
theorem dX5_freeze_45 : decode cX5_freeze 45 = .ok (.if_icmp .ge 30, 3) := by decide +kernel
theorem dX5_freeze_48 : decode cX5_freeze 48 = .ok (.aload_n 2, 1) := by decide +kernel
theorem dX5_freeze_49 : decode cX5_freeze 49 = .ok (.getfield 104, 3) := by decide +kernel
theorem dX5_freeze_52 : decode cX5_freeze 52 = .ok (.getfield 74, 3) := by decide +kernel
theorem dX5_freeze_55 : decode cX5_freeze 55 = .ok (.ifCond .ne 20, 3) := by decide +kernel
theorem dX5_freeze_58 : decode cX5_freeze 58 = .ok (.aload_n 0, 1) := by decide +kernel
theorem dX5_freeze_59 : decode cX5_freeze 59 = .ok (.aload_n 2, 1) := by decide +kernel
theorem dX5_freeze_60 : decode cX5_freeze 60 = .ok (.aload_n 2, 1) := by decide +kernel
theorem dX5_freeze_61 : decode cX5_freeze 61 = .ok (.getfield 119, 3) := by decide +kernel
theorem dX5_freeze_64 : decode cX5_freeze 64 = .ok (.bipush 9, 2) := by decide +kernel
theorem dX5_freeze_66 : decode cX5_freeze 66 = .ok (.iadd, 1) := by decide +kernel
theorem dX5_freeze_67 : decode cX5_freeze 67 = .ok (.bipush 10, 2) := by decide +kernel
theorem dX5_freeze_69 : decode cX5_freeze 69 = .ok (.idiv, 1) := by decide +kernel
theorem dX5_freeze_70 : decode cX5_freeze 70 = .ok (.ineg, 1) := by decide +kernel
theorem dX5_freeze_71 : decode cX5_freeze 71 = .ok (.iconst 2, 1) := by decide +kernel
theorem dX5_freeze_72 : decode cX5_freeze 72 = .ok (.invokevirtual 127, 3) := by decide +kernel
theorem dX5_freeze_75 : decode cX5_freeze 75 = .ok (.iinc 1 1, 3) := by decide +kernel
theorem dX5_freeze_78 : decode cX5_freeze 78 = .ok (.goto (-61), 3) := by decide +kernel
theorem dX5_freeze_81 : decode cX5_freeze 81 = .ok (.return_, 1) := by decide +kernel
set_option maxRecDepth 20000 in
theorem ggX5_feedPeople_X5_foodInStation : GoodIn wsX5_feedPeople wsX5_foodInStation := goodIn_r _ [9, 10, 11, 12, 13, 14, 15, 16, 17, 18, 19, 20, 21, 22, 23, 24, 25, 26, 27, 28, 29, 30, 31, 32, 33, 34, 35, 36, 37, 38, 39, 40, 41, 42, 43, 142, 143, 144, 145, 146, 147, 148, 149, 150, 151, 152, 153, 154, 155, 156, 157, 158, 159] (by decide +kernel) (by decide +kernel)
set_option maxRecDepth 20000 in
theorem gX5_feedPeople_X5_foodInStation : GoodIn wsX5_feedPeople (wsV RX5 178 RX5 yX5_foodInStation wsX5_foodInStation) := goodIn_app (goodIn_of _ (by decide +kernel)) ggX5_feedPeople_X5_foodInStation
set_option maxRecDepth 20000 in
theorem ggX5_feedPeople_X5_needOfAll : GoodIn wsX5_feedPeople wsX5_needOfAll := goodIn_r _ [47, 48, 49, 13, 14, 15, 16, 17, 18, 19, 20, 21, 22, 23, 24, 25, 26, 27, 28, 29, 30, 31, 32, 33, 34, 35, 50, 51, 52, 53, 54, 55, 56, 142, 143, 144, 145, 146, 147, 148, 154, 155, 156, 160, 161, 162, 163] (by decide +kernel) (by decide +kernel)
set_option maxRecDepth 20000 in
theorem gX5_feedPeople_X5_needOfAll : GoodIn wsX5_feedPeople (wsV RX5 175 RX5 yX5_needOfAll wsX5_needOfAll) := goodIn_app (goodIn_of _ (by decide +kernel)) ggX5_feedPeople_X5_needOfAll
set_option maxRecDepth 20000 in
theorem ggX5_feedPeople_X5_cutRations : GoodIn wsX5_feedPeople wsX5_cutRations := goodIn_r _ [60, 48, 49, 61, 1, 2, 3, 4, 62, 13, 14, 15, 16, 17, 18, 19, 20, 21, 22, 23, 24, 25, 26, 27, 28, 29, 30, 31, 32, 33, 34, 35, 50, 51, 52, 53, 54, 55, 56, 142, 143, 144, 145, 146, 147, 148, 160, 161, 162, 163, 154, 155, 156] (by decide +kernel) (by decide +kernel)
set_option maxRecDepth 20000 in
theorem gX5_feedPeople_X5_cutRations : GoodIn wsX5_feedPeople (wsV RX5 209 RX5 yX5_cutRations wsX5_cutRations) := goodIn_app (goodIn_of _ (by decide +kernel)) ggX5_feedPeople_X5_cutRations
set_option maxRecDepth 20000 in
theorem ggX5_feedPeople_X5_eatFromLots : GoodIn wsX5_feedPeople wsX5_eatFromLots := goodIn_r _ [66, 12, 1, 2, 3, 4, 67, 68, 69, 8, 70, 10, 11, 71, 13, 14, 15, 16, 17, 18, 19, 20, 21, 22, 23, 24, 25, 26, 27, 28, 29, 30, 31, 32, 33, 34, 35, 36, 37, 38, 39, 40, 41, 42, 43, 72, 73, 74, 75, 76, 77, 78, 79, 80, 81, 82, 83, 84, 85, 86, 87, 88, 89, 90, 91, 92, 93, 94, 95, 96, 97, 98, 99, 100, 101, 102, 103, 104, 105, 106, 107, 108, 109, 110, 111, 112, 113, 114, 115, 116, 117, 118, 119, 120, 121, 122, 123, 124, 125, 126, 127, 128, 129, 130, 131, 132, 133, 134, 135, 136, 137, 138, 139, 140, 141, 149, 150, 151, 152, 153, 142, 143, 144, 145, 146, 147, 148, 154, 155, 156, 157, 158, 159, 164, 165, 166, 167] (by decide +kernel) (by decide +kernel)
set_option maxRecDepth 20000 in
theorem gX5_feedPeople_X5_eatFromLots : GoodIn wsX5_feedPeople (wsV RX5 218 RX5 yX5_eatFromLots wsX5_eatFromLots) := goodIn_app (goodIn_of _ (by decide +kernel)) ggX5_feedPeople_X5_eatFromLots
theorem dX5_feedPeople_0 : decode cX5_feedPeople 0 = .ok (.aload_n 0, 1) := by decide +kernel
theorem dX5_feedPeople_1 : decode cX5_feedPeople 1 = .ok (.invokevirtual 178, 3) := by decide +kernel
theorem dX5_feedPeople_4 : decode cX5_feedPeople 4 = .ok (.istore_n 1, 1) := by decide +kernel
theorem dX5_feedPeople_5 : decode cX5_feedPeople 5 = .ok (.aload_n 0, 1) := by decide +kernel
theorem dX5_feedPeople_6 : decode cX5_feedPeople 6 = .ok (.invokevirtual 175, 3) := by decide +kernel
theorem dX5_feedPeople_9 : decode cX5_feedPeople 9 = .ok (.istore_n 2, 1) := by decide +kernel
theorem dX5_feedPeople_10 : decode cX5_feedPeople 10 = .ok (.iload_n 1, 1) := by decide +kernel
theorem dX5_feedPeople_11 : decode cX5_feedPeople 11 = .ok (.iload_n 2, 1) := by decide +kernel
theorem dX5_feedPeople_12 : decode cX5_feedPeople 12 = .ok (.if_icmp .ge 9, 3) := by decide +kernel
theorem dX5_feedPeople_15 : decode cX5_feedPeople 15 = .ok (.aload_n 0, 1) := by decide +kernel
theorem dX5_feedPeople_16 : decode cX5_feedPeople 16 = .ok (.iload_n 1, 1) := by decide +kernel
theorem dX5_feedPeople_17 : decode cX5_feedPeople 17 = .ok (.iload_n 2, 1) := by decide +kernel
theorem dX5_feedPeople_18 : decode cX5_feedPeople 18 = .ok (.invokevirtual 209, 3) := by decide +kernel
theorem dX5_feedPeople_21 : decode cX5_feedPeople 21 = .ok (.iload_n 1, 1) := by decide +kernel
theorem dX5_feedPeople_22 : decode cX5_feedPeople 22 = .ok (.iload_n 2, 1) := by decide +kernel
theorem dX5_feedPeople_23 : decode cX5_feedPeople 23 = .ok (.invokestatic 212, 3) := by decide +kernel
theorem dX5_feedPeople_26 : decode cX5_feedPeople 26 = .ok (.istore_n 3, 1) := by decide +kernel
theorem dX5_feedPeople_27 : decode cX5_feedPeople 27 = .ok (.aload_n 0, 1) := by decide +kernel
theorem dX5_feedPeople_28 : decode cX5_feedPeople 28 = .ok (.iload_n 3, 1) := by decide +kernel
theorem dX5_feedPeople_29 : decode cX5_feedPeople 29 = .ok (.invokevirtual 218, 3) := by decide +kernel
theorem dX5_feedPeople_32 : decode cX5_feedPeople 32 = .ok (.iload_n 3, 1) := by decide +kernel
theorem dX5_feedPeople_33 : decode cX5_feedPeople 33 = .ok (.ireturn, 1) := by decide +kernel
set_option maxRecDepth 20000 in
theorem ggX5_foodInStation_Jx4a65c_size_8abf5 : GoodIn wsX5_foodInStation wsJx4a65c_size_8abf5 := goodIn_r _ [8, 9, 47, 48, 49] (by decide +kernel) (by decide +kernel)
set_option maxRecDepth 20000 in
theorem gX5_foodInStation_Jx4a65c_size_8abf5 : GoodIn wsX5_foodInStation (wsV RX5 90 RJx4a65c yJx4a65c_size_8abf5 wsJx4a65c_size_8abf5) := goodIn_app (goodIn_of _ (by decide +kernel)) ggX5_foodInStation_Jx4a65c_size_8abf5
set_option maxRecDepth 20000 in
theorem ggX5_foodInStation_Jx4a65c_get_915e3 : GoodIn wsX5_foodInStation wsJx4a65c_get_915e3 := goodIn_r _ [13, 9, 14, 15, 16, 17, 18, 19, 20, 21, 22, 23, 24, 7, 25, 26, 47, 48, 49] (by decide +kernel) (by decide +kernel)
set_option maxRecDepth 20000 in
theorem gX5_foodInStation_Jx4a65c_get_915e3 : GoodIn wsX5_foodInStation (wsV RX5 60 RJx4a65c yJx4a65c_get_915e3 wsJx4a65c_get_915e3) := goodIn_app (goodIn_of _ (by decide +kernel)) ggX5_foodInStation_Jx4a65c_get_915e3
set_option maxRecDepth 20000 in
theorem ggX5_foodInStation_X3_isFoodInStation : GoodIn wsX5_foodInStation wsX3_isFoodInStation := goodIn_r _ [31, 32, 33, 34, 42, 43, 44, 45, 46, 50, 51, 52] (by decide +kernel) (by decide +kernel)
set_option maxRecDepth 20000 in
theorem gX5_foodInStation_X3_isFoodInStation : GoodIn wsX5_foodInStation (wsV RX5 221 RX3 yX3_isFoodInStation wsX3_isFoodInStation) := goodIn_app (goodIn_of _ (by decide +kernel)) ggX5_foodInStation_X3_isFoodInStation
theorem dX5_foodInStation_0 : decode cX5_foodInStation 0 = .ok (.iconst 0, 1) := by decide +kernel
theorem dX5_foodInStation_1 : decode cX5_foodInStation 1 = .ok (.istore_n 1, 1) := by decide +kernel
theorem dX5_foodInStation_2 : decode cX5_foodInStation 2 = .ok (.iconst 0, 1) := by decide +kernel
theorem dX5_foodInStation_3 : decode cX5_foodInStation 3 = .ok (.istore_n 2, 1) := by decide +kernel
theorem dX5_foodInStation_4 : decode cX5_foodInStation 4 = .ok (.iload_n 2, 1) := by decide +kernel
theorem dX5_foodInStation_5 : decode cX5_foodInStation 5 = .ok (.aload_n 0, 1) := by decide +kernel
theorem dX5_foodInStation_6 : decode cX5_foodInStation 6 = .ok (.getfield 16, 3) := by decide +kernel
theorem dX5_foodInStation_9 : decode cX5_foodInStation 9 = .ok (.invokevirtual 90, 3) := by decide +kernel
theorem dX5_foodInStation_12 : decode cX5_foodInStation 12 = .ok (.if_icmp .ge 35, 3) := by decide +kernel
theorem dX5_foodInStation_15 : decode cX5_foodInStation 15 = .ok (.aload_n 0, 1) := by decide +kernel
theorem dX5_foodInStation_16 : decode cX5_foodInStation 16 = .ok (.getfield 16, 3) := by decide +kernel
theorem dX5_foodInStation_19 : decode cX5_foodInStation 19 = .ok (.iload_n 2, 1) := by decide +kernel
theorem dX5_foodInStation_20 : decode cX5_foodInStation 20 = .ok (.invokevirtual 60, 3) := by decide +kernel
theorem dX5_foodInStation_23 : decode cX5_foodInStation 23 = .ok (.checkcast 88, 3) := by decide +kernel
theorem dX5_foodInStation_26 : decode cX5_foodInStation 26 = .ok (.astore_n 3, 1) := by decide +kernel
theorem dX5_foodInStation_27 : decode cX5_foodInStation 27 = .ok (.aload_n 3, 1) := by decide +kernel
theorem dX5_foodInStation_28 : decode cX5_foodInStation 28 = .ok (.invokevirtual 221, 3) := by decide +kernel
theorem dX5_foodInStation_31 : decode cX5_foodInStation 31 = .ok (.ifCond .eq 10, 3) := by decide +kernel
theorem dX5_foodInStation_34 : decode cX5_foodInStation 34 = .ok (.iload_n 1, 1) := by decide +kernel
theorem dX5_foodInStation_35 : decode cX5_foodInStation 35 = .ok (.aload_n 3, 1) := by decide +kernel
theorem dX5_foodInStation_36 : decode cX5_foodInStation 36 = .ok (.getfield 119, 3) := by decide +kernel
theorem dX5_foodInStation_39 : decode cX5_foodInStation 39 = .ok (.iadd, 1) := by decide +kernel
theorem dX5_foodInStation_40 : decode cX5_foodInStation 40 = .ok (.istore_n 1, 1) := by decide +kernel
theorem dX5_foodInStation_41 : decode cX5_foodInStation 41 = .ok (.iinc 2 1, 3) := by decide +kernel
theorem dX5_foodInStation_44 : decode cX5_foodInStation 44 = .ok (.goto (-40), 3) := by decide +kernel
theorem dX5_foodInStation_47 : decode cX5_foodInStation 47 = .ok (.iload_n 1, 1) := by decide +kernel
theorem dX5_foodInStation_48 : decode cX5_foodInStation 48 = .ok (.ireturn, 1) := by decide +kernel
set_option maxRecDepth 20000 in
theorem ggX5_needOfAll_Jx4a65c_size_8abf5 : GoodIn wsX5_needOfAll wsJx4a65c_size_8abf5 := goodIn_r _ [7, 8, 40, 41, 42] (by decide +kernel) (by decide +kernel)
set_option maxRecDepth 20000 in
theorem gX5_needOfAll_Jx4a65c_size_8abf5 : GoodIn wsX5_needOfAll (wsV RX5 90 RJx4a65c yJx4a65c_size_8abf5 wsJx4a65c_size_8abf5) := goodIn_app (goodIn_of _ (by decide +kernel)) ggX5_needOfAll_Jx4a65c_size_8abf5
set_option maxRecDepth 20000 in
theorem ggX5_needOfAll_Jx4a65c_get_915e3 : GoodIn wsX5_needOfAll wsJx4a65c_get_915e3 := goodIn_r _ [12, 8, 13, 14, 15, 16, 17, 18, 19, 20, 21, 22, 23, 6, 24, 25, 40, 41, 42] (by decide +kernel) (by decide +kernel)
set_option maxRecDepth 20000 in
theorem gX5_needOfAll_Jx4a65c_get_915e3 : GoodIn wsX5_needOfAll (wsV RX5 60 RJx4a65c yJx4a65c_get_915e3 wsJx4a65c_get_915e3) := goodIn_app (goodIn_of _ (by decide +kernel)) ggX5_needOfAll_Jx4a65c_get_915e3
set_option maxRecDepth 20000 in
theorem ggX5_needOfAll_X4_need : GoodIn wsX5_needOfAll wsX4_need := goodIn_r _ [30, 31, 32, 43, 44, 45, 46] (by decide +kernel) (by decide +kernel)
set_option maxRecDepth 20000 in
theorem gX5_needOfAll_X4_need : GoodIn wsX5_needOfAll (wsV RX5 225 RX4 yX4_need wsX4_need) := goodIn_app (goodIn_of _ (by decide +kernel)) ggX5_needOfAll_X4_need
theorem dX5_needOfAll_0 : decode cX5_needOfAll 0 = .ok (.iconst 0, 1) := by decide +kernel
theorem dX5_needOfAll_1 : decode cX5_needOfAll 1 = .ok (.istore_n 1, 1) := by decide +kernel
theorem dX5_needOfAll_2 : decode cX5_needOfAll 2 = .ok (.iconst 0, 1) := by decide +kernel
theorem dX5_needOfAll_3 : decode cX5_needOfAll 3 = .ok (.istore_n 2, 1) := by decide +kernel
theorem dX5_needOfAll_4 : decode cX5_needOfAll 4 = .ok (.iload_n 2, 1) := by decide +kernel
theorem dX5_needOfAll_5 : decode cX5_needOfAll 5 = .ok (.aload_n 0, 1) := by decide +kernel
theorem dX5_needOfAll_6 : decode cX5_needOfAll 6 = .ok (.getfield 19, 3) := by decide +kernel
theorem dX5_needOfAll_9 : decode cX5_needOfAll 9 = .ok (.invokevirtual 90, 3) := by decide +kernel
theorem dX5_needOfAll_12 : decode cX5_needOfAll 12 = .ok (.if_icmp .ge 26, 3) := by decide +kernel
theorem dX5_needOfAll_15 : decode cX5_needOfAll 15 = .ok (.iload_n 1, 1) := by decide +kernel
theorem dX5_needOfAll_16 : decode cX5_needOfAll 16 = .ok (.aload_n 0, 1) := by decide +kernel
theorem dX5_needOfAll_17 : decode cX5_needOfAll 17 = .ok (.getfield 19, 3) := by decide +kernel
theorem dX5_needOfAll_20 : decode cX5_needOfAll 20 = .ok (.iload_n 2, 1) := by decide +kernel
theorem dX5_needOfAll_21 : decode cX5_needOfAll 21 = .ok (.invokevirtual 60, 3) := by decide +kernel
theorem dX5_needOfAll_24 : decode cX5_needOfAll 24 = .ok (.checkcast 48, 3) := by decide +kernel
theorem dX5_needOfAll_27 : decode cX5_needOfAll 27 = .ok (.invokevirtual 225, 3) := by decide +kernel
theorem dX5_needOfAll_30 : decode cX5_needOfAll 30 = .ok (.iadd, 1) := by decide +kernel
theorem dX5_needOfAll_31 : decode cX5_needOfAll 31 = .ok (.istore_n 1, 1) := by decide +kernel
theorem dX5_needOfAll_32 : decode cX5_needOfAll 32 = .ok (.iinc 2 1, 3) := by decide +kernel
theorem dX5_needOfAll_35 : decode cX5_needOfAll 35 = .ok (.goto (-31), 3) := by decide +kernel
theorem dX5_needOfAll_38 : decode cX5_needOfAll 38 = .ok (.iload_n 1, 1) := by decide +kernel
theorem dX5_needOfAll_39 : decode cX5_needOfAll 39 = .ok (.ireturn, 1) := by decide +kernel
set_option maxRecDepth 20000 in
theorem ggX5_cutRations_Jx4a65c_size_8abf5 : GoodIn wsX5_cutRations wsJx4a65c_size_8abf5 := goodIn_r _ [13, 14, 50, 51, 52] (by decide +kernel) (by decide +kernel)
set_option maxRecDepth 20000 in
theorem gX5_cutRations_Jx4a65c_size_8abf5 : GoodIn wsX5_cutRations (wsV RX5 90 RJx4a65c yJx4a65c_size_8abf5 wsJx4a65c_size_8abf5) := goodIn_app (goodIn_of _ (by decide +kernel)) ggX5_cutRations_Jx4a65c_size_8abf5
set_option maxRecDepth 20000 in
theorem ggX5_cutRations_Jx4a65c_get_915e3 : GoodIn wsX5_cutRations wsJx4a65c_get_915e3 := goodIn_r _ [18, 14, 19, 20, 21, 22, 23, 24, 25, 26, 27, 28, 29, 12, 30, 31, 50, 51, 52] (by decide +kernel) (by decide +kernel)
set_option maxRecDepth 20000 in
theorem gX5_cutRations_Jx4a65c_get_915e3 : GoodIn wsX5_cutRations (wsV RX5 60 RJx4a65c yJx4a65c_get_915e3 wsJx4a65c_get_915e3) := goodIn_app (goodIn_of _ (by decide +kernel)) ggX5_cutRations_Jx4a65c_get_915e3
set_option maxRecDepth 20000 in
theorem ggX5_cutRations_X4_need : GoodIn wsX5_cutRations wsX4_need := goodIn_r _ [36, 37, 38, 46, 47, 48, 49] (by decide +kernel) (by decide +kernel)
set_option maxRecDepth 20000 in
theorem gX5_cutRations_X4_need : GoodIn wsX5_cutRations (wsV RX5 225 RX4 yX4_need wsX4_need) := goodIn_app (goodIn_of _ (by decide +kernel)) ggX5_cutRations_X4_need
theorem dX5_cutRations_0 : decode cX5_cutRations 0 = .ok (.iload_n 2, 1) := by decide +kernel
theorem dX5_cutRations_1 : decode cX5_cutRations 1 = .ok (.ifCond .gt 4, 3) := by decide +kernel
theorem dX5_cutRations_4 : decode cX5_cutRations 4 = .ok (.return_, 1) := by decide +kernel
theorem dX5_cutRations_5 : decode cX5_cutRations 5 = .ok (.iload_n 1, 1) := by decide +kernel
theorem dX5_cutRations_6 : decode cX5_cutRations 6 = .ok (.istore_n 3, 1) := by decide +kernel
theorem dX5_cutRations_7 : decode cX5_cutRations 7 = .ok (.iconst 0, 1) := by decide +kernel
theorem dX5_cutRations_8 : decode cX5_cutRations 8 = .ok (.istore 4, 2) := by decide +kernel
theorem dX5_cutRations_10 : decode cX5_cutRations 10 = .ok (.iload 4, 2) := by decide +kernel
theorem dX5_cutRations_12 : decode cX5_cutRations 12 = .ok (.aload_n 0, 1) := by decide +kernel
theorem dX5_cutRations_13 : decode cX5_cutRations 13 = .ok (.getfield 19, 3) := by decide +kernel
theorem dX5_cutRations_16 : decode cX5_cutRations 16 = .ok (.invokevirtual 90, 3) := by decide +kernel
theorem dX5_cutRations_19 : decode cX5_cutRations 19 = .ok (.if_icmp .ge 45, 3) := by decide +kernel
theorem dX5_cutRations_22 : decode cX5_cutRations 22 = .ok (.aload_n 0, 1) := by decide +kernel
theorem dX5_cutRations_23 : decode cX5_cutRations 23 = .ok (.getfield 19, 3) := by decide +kernel
theorem dX5_cutRations_26 : decode cX5_cutRations 26 = .ok (.iload 4, 2) := by decide +kernel
theorem dX5_cutRations_28 : decode cX5_cutRations 28 = .ok (.invokevirtual 60, 3) := by decide +kernel
theorem dX5_cutRations_31 : decode cX5_cutRations 31 = .ok (.checkcast 48, 3) := by decide +kernel
theorem dX5_cutRations_34 : decode cX5_cutRations 34 = .ok (.astore 5, 2) := by decide +kernel
theorem dX5_cutRations_36 : decode cX5_cutRations 36 = .ok (.aload 5, 2) := by decide +kernel
theorem dX5_cutRations_38 : decode cX5_cutRations 38 = .ok (.iload_n 1, 1) := by decide +kernel
theorem dX5_cutRations_39 : decode cX5_cutRations 39 = .ok (.aload 5, 2) := by decide +kernel
theorem dX5_cutRations_41 : decode cX5_cutRations 41 = .ok (.invokevirtual 225, 3) := by decide +kernel
theorem dX5_cutRations_44 : decode cX5_cutRations 44 = .ok (.imul, 1) := by decide +kernel
theorem dX5_cutRations_45 : decode cX5_cutRations 45 = .ok (.iload_n 2, 1) := by decide +kernel
theorem dX5_cutRations_46 : decode cX5_cutRations 46 = .ok (.idiv, 1) := by decide +kernel
theorem dX5_cutRations_47 : decode cX5_cutRations 47 = .ok (.putfield 228, 3) := by decide +kernel
theorem dX5_cutRations_50 : decode cX5_cutRations 50 = .ok (.iload_n 3, 1) := by decide +kernel
theorem dX5_cutRations_51 : decode cX5_cutRations 51 = .ok (.aload 5, 2) := by decide +kernel
theorem dX5_cutRations_53 : decode cX5_cutRations 53 = .ok (.getfield 228, 3) := by decide +kernel
theorem dX5_cutRations_56 : decode cX5_cutRations 56 = .ok (.isub, 1) := by decide +kernel
theorem dX5_cutRations_57 : decode cX5_cutRations 57 = .ok (.istore_n 3, 1) := by decide +kernel
theorem dX5_cutRations_58 : decode cX5_cutRations 58 = .ok (.iinc 4 1, 3) := by decide +kernel
theorem dX5_cutRations_61 : decode cX5_cutRations 61 = .ok (.goto (-51), 3) := by decide +kernel
theorem dX5_cutRations_64 : decode cX5_cutRations 64 = .ok (.aload_n 0, 1) := by decide +kernel
theorem dX5_cutRations_65 : decode cX5_cutRations 65 = .ok (.getfield 19, 3) := by decide +kernel
theorem dX5_cutRations_68 : decode cX5_cutRations 68 = .ok (.invokevirtual 90, 3) := by decide +kernel
theorem dX5_cutRations_71 : decode cX5_cutRations 71 = .ok (.iconst 1, 1) := by decide +kernel
theorem dX5_cutRations_72 : decode cX5_cutRations 72 = .ok (.isub, 1) := by decide +kernel
theorem dX5_cutRations_73 : decode cX5_cutRations 73 = .ok (.istore 4, 2) := by decide +kernel
theorem dX5_cutRations_75 : decode cX5_cutRations 75 = .ok (.iload 4, 2) := by decide +kernel
theorem dX5_cutRations_77 : decode cX5_cutRations 77 = .ok (.ifCond .lt 78, 3) := by decide +kernel
theorem dX5_cutRations_80 : decode cX5_cutRations 80 = .ok (.aload_n 0, 1) := by decide +kernel
theorem dX5_cutRations_81 : decode cX5_cutRations 81 = .ok (.getfield 19, 3) := by decide +kernel
theorem dX5_cutRations_84 : decode cX5_cutRations 84 = .ok (.iload 4, 2) := by decide +kernel
theorem dX5_cutRations_86 : decode cX5_cutRations 86 = .ok (.invokevirtual 60, 3) := by decide +kernel
theorem dX5_cutRations_89 : decode cX5_cutRations 89 = .ok (.checkcast 48, 3) := by decide +kernel
theorem dX5_cutRations_92 : decode cX5_cutRations 92 = .ok (.astore 5, 2) := by decide +kernel
theorem dX5_cutRations_94 : decode cX5_cutRations 94 = .ok (.iload_n 3, 1) := by decide +kernel
theorem dX5_cutRations_95 : decode cX5_cutRations 95 = .ok (.aload 5, 2) := by decide +kernel
theorem dX5_cutRations_97 : decode cX5_cutRations 97 = .ok (.invokevirtual 225, 3) := by decide +kernel
theorem dX5_cutRations_100 : decode cX5_cutRations 100 = .ok (.aload 5, 2) := by decide +kernel
theorem dX5_cutRations_102 : decode cX5_cutRations 102 = .ok (.getfield 228, 3) := by decide +kernel
theorem dX5_cutRations_105 : decode cX5_cutRations 105 = .ok (.isub, 1) := by decide +kernel
theorem dX5_cutRations_106 : decode cX5_cutRations 106 = .ok (.invokestatic 212, 3) := by decide +kernel
theorem dX5_cutRations_109 : decode cX5_cutRations 109 = .ok (.istore 6, 2) := by decide +kernel
theorem dX5_cutRations_111 : decode cX5_cutRations 111 = .ok (.aload 5, 2) := by decide +kernel
theorem dX5_cutRations_113 : decode cX5_cutRations 113 = .ok (.dup, 1) := by decide +kernel
theorem dX5_cutRations_114 : decode cX5_cutRations 114 = .ok (.getfield 228, 3) := by decide +kernel
theorem dX5_cutRations_117 : decode cX5_cutRations 117 = .ok (.iload 6, 2) := by decide +kernel
theorem dX5_cutRations_119 : decode cX5_cutRations 119 = .ok (.iadd, 1) := by decide +kernel
theorem dX5_cutRations_120 : decode cX5_cutRations 120 = .ok (.putfield 228, 3) := by decide +kernel
theorem dX5_cutRations_123 : decode cX5_cutRations 123 = .ok (.iload_n 3, 1) := by decide +kernel
theorem dX5_cutRations_124 : decode cX5_cutRations 124 = .ok (.iload 6, 2) := by decide +kernel
theorem dX5_cutRations_126 : decode cX5_cutRations 126 = .ok (.isub, 1) := by decide +kernel
theorem dX5_cutRations_127 : decode cX5_cutRations 127 = .ok (.istore_n 3, 1) := by decide +kernel
theorem dX5_cutRations_128 : decode cX5_cutRations 128 = .ok (.aload 5, 2) := by decide +kernel
theorem dX5_cutRations_130 : decode cX5_cutRations 130 = .ok (.dup, 1) := by decide +kernel
theorem dX5_cutRations_131 : decode cX5_cutRations 131 = .ok (.getfield 156, 3) := by decide +kernel
theorem dX5_cutRations_134 : decode cX5_cutRations 134 = .ok (.aload 5, 2) := by decide +kernel
theorem dX5_cutRations_136 : decode cX5_cutRations 136 = .ok (.invokevirtual 225, 3) := by decide +kernel
theorem dX5_cutRations_139 : decode cX5_cutRations 139 = .ok (.aload 5, 2) := by decide +kernel
theorem dX5_cutRations_141 : decode cX5_cutRations 141 = .ok (.getfield 228, 3) := by decide +kernel
theorem dX5_cutRations_144 : decode cX5_cutRations 144 = .ok (.isub, 1) := by decide +kernel
theorem dX5_cutRations_145 : decode cX5_cutRations 145 = .ok (.iadd, 1) := by decide +kernel
theorem dX5_cutRations_146 : decode cX5_cutRations 146 = .ok (.putfield 156, 3) := by decide +kernel
theorem dX5_cutRations_149 : decode cX5_cutRations 149 = .ok (.iinc 4 (-1), 3) := by decide +kernel
theorem dX5_cutRations_152 : decode cX5_cutRations 152 = .ok (.goto (-77), 3) := by decide +kernel
theorem dX5_cutRations_155 : decode cX5_cutRations 155 = .ok (.return_, 1) := by decide +kernel
set_option maxRecDepth 20000 in
theorem ggX5_eatFromLots_X5_nextToEat : GoodIn wsX5_eatFromLots wsX5_nextToEat := goodIn_r _ [10, 11, 12, 1, 13, 14, 15, 16, 17, 18, 19, 20, 21, 22, 23, 24, 25, 26, 27, 28, 29, 30, 31, 32, 33, 34, 35, 36, 37, 38, 39, 40, 41, 42, 43, 44, 120, 121, 122, 123, 124, 125, 126, 115, 116, 117, 118, 119, 127, 128, 129, 130, 131, 132] (by decide +kernel) (by decide +kernel)
set_option maxRecDepth 20000 in
theorem gX5_eatFromLots_X5_nextToEat : GoodIn wsX5_eatFromLots (wsV RX5 231 RX5 yX5_nextToEat wsX5_nextToEat) := goodIn_app (goodIn_of _ (by decide +kernel)) ggX5_eatFromLots_X5_nextToEat
set_option maxRecDepth 20000 in
theorem ggX5_eatFromLots_X5_changeAmount : GoodIn wsX5_eatFromLots wsX5_changeAmount := goodIn_r _ [48, 1, 49, 50, 51, 52, 53, 54, 14, 15, 16, 17, 18, 19, 55, 56, 57, 58, 59, 60, 61, 62, 63, 64, 65, 66, 67, 68, 69, 70, 36, 71, 72, 73, 74, 75, 76, 77, 78, 79, 80, 81, 82, 83, 84, 85, 4, 86, 87, 88, 89, 90, 91, 92, 93, 94, 95, 96, 97, 98, 99, 100, 101, 102, 103, 104, 105, 106, 107, 108, 109, 110, 3, 5, 111, 112, 113, 114, 115, 116, 117, 118, 119, 120, 121, 122, 123, 124, 125, 126, 133, 134, 135, 136, 127, 128, 129] (by decide +kernel) (by decide +kernel)
set_option maxRecDepth 20000 in
theorem gX5_eatFromLots_X5_changeAmount : GoodIn wsX5_eatFromLots (wsV RX5 127 RX5 yX5_changeAmount wsX5_changeAmount) := goodIn_app (goodIn_of _ (by decide +kernel)) ggX5_eatFromLots_X5_changeAmount
theorem dX5_eatFromLots_0 : decode cX5_eatFromLots 0 = .ok (.iload_n 1, 1) := by decide +kernel
theorem dX5_eatFromLots_1 : decode cX5_eatFromLots 1 = .ok (.istore_n 2, 1) := by decide +kernel
theorem dX5_eatFromLots_2 : decode cX5_eatFromLots 2 = .ok (.iconst 0, 1) := by decide +kernel
theorem dX5_eatFromLots_3 : decode cX5_eatFromLots 3 = .ok (.istore_n 3, 1) := by decide +kernel
theorem dX5_eatFromLots_4 : decode cX5_eatFromLots 4 = .ok (.iload_n 3, 1) := by decide +kernel
theorem dX5_eatFromLots_5 : decode cX5_eatFromLots 5 = .ok (.bipush 40, 2) := by decide +kernel
theorem dX5_eatFromLots_7 : decode cX5_eatFromLots 7 = .ok (.if_icmp .ge 51, 3) := by decide +kernel
theorem dX5_eatFromLots_10 : decode cX5_eatFromLots 10 = .ok (.iload_n 2, 1) := by decide +kernel
theorem dX5_eatFromLots_11 : decode cX5_eatFromLots 11 = .ok (.ifCond .le 47, 3) := by decide +kernel
theorem dX5_eatFromLots_14 : decode cX5_eatFromLots 14 = .ok (.aload_n 0, 1) := by decide +kernel
theorem dX5_eatFromLots_15 : decode cX5_eatFromLots 15 = .ok (.invokevirtual 231, 3) := by decide +kernel
theorem dX5_eatFromLots_18 : decode cX5_eatFromLots 18 = .ok (.astore 4, 2) := by decide +kernel
theorem dX5_eatFromLots_20 : decode cX5_eatFromLots 20 = .ok (.aload 4, 2) := by decide +kernel
theorem dX5_eatFromLots_22 : decode cX5_eatFromLots 22 = .ok (.ifnonnull 4, 3) := by decide +kernel
theorem dX5_eatFromLots_25 : decode cX5_eatFromLots 25 = .ok (.return_, 1) := by decide +kernel
theorem dX5_eatFromLots_26 : decode cX5_eatFromLots 26 = .ok (.iload_n 2, 1) := by decide +kernel
theorem dX5_eatFromLots_27 : decode cX5_eatFromLots 27 = .ok (.aload 4, 2) := by decide +kernel
theorem dX5_eatFromLots_29 : decode cX5_eatFromLots 29 = .ok (.getfield 119, 3) := by decide +kernel
theorem dX5_eatFromLots_32 : decode cX5_eatFromLots 32 = .ok (.invokestatic 212, 3) := by decide +kernel
theorem dX5_eatFromLots_35 : decode cX5_eatFromLots 35 = .ok (.istore 5, 2) := by decide +kernel
theorem dX5_eatFromLots_37 : decode cX5_eatFromLots 37 = .ok (.aload_n 0, 1) := by decide +kernel
theorem dX5_eatFromLots_38 : decode cX5_eatFromLots 38 = .ok (.aload 4, 2) := by decide +kernel
theorem dX5_eatFromLots_40 : decode cX5_eatFromLots 40 = .ok (.iload 5, 2) := by decide +kernel
theorem dX5_eatFromLots_42 : decode cX5_eatFromLots 42 = .ok (.ineg, 1) := by decide +kernel
theorem dX5_eatFromLots_43 : decode cX5_eatFromLots 43 = .ok (.iconst 3, 1) := by decide +kernel
theorem dX5_eatFromLots_44 : decode cX5_eatFromLots 44 = .ok (.invokevirtual 127, 3) := by decide +kernel
theorem dX5_eatFromLots_47 : decode cX5_eatFromLots 47 = .ok (.iload_n 2, 1) := by decide +kernel
theorem dX5_eatFromLots_48 : decode cX5_eatFromLots 48 = .ok (.iload 5, 2) := by decide +kernel
theorem dX5_eatFromLots_50 : decode cX5_eatFromLots 50 = .ok (.isub, 1) := by decide +kernel
theorem dX5_eatFromLots_51 : decode cX5_eatFromLots 51 = .ok (.istore_n 2, 1) := by decide +kernel
theorem dX5_eatFromLots_52 : decode cX5_eatFromLots 52 = .ok (.iinc 3 1, 3) := by decide +kernel
theorem dX5_eatFromLots_55 : decode cX5_eatFromLots 55 = .ok (.goto (-51), 3) := by decide +kernel
theorem dX5_eatFromLots_58 : decode cX5_eatFromLots 58 = .ok (.return_, 1) := by decide +kernel
set_option maxRecDepth 20000 in
theorem ggX5_nextToEat_Jx4a65c_size_8abf5 : GoodIn wsX5_nextToEat wsJx4a65c_size_8abf5 := goodIn_r _ [9, 10, 48, 49, 50] (by decide +kernel) (by decide +kernel)
set_option maxRecDepth 20000 in
theorem gX5_nextToEat_Jx4a65c_size_8abf5 : GoodIn wsX5_nextToEat (wsV RX5 90 RJx4a65c yJx4a65c_size_8abf5 wsJx4a65c_size_8abf5) := goodIn_app (goodIn_of _ (by decide +kernel)) ggX5_nextToEat_Jx4a65c_size_8abf5
set_option maxRecDepth 20000 in
theorem ggX5_nextToEat_Jx4a65c_get_915e3 : GoodIn wsX5_nextToEat wsJx4a65c_get_915e3 := goodIn_r _ [14, 10, 15, 16, 17, 18, 19, 20, 21, 22, 23, 24, 25, 8, 26, 27, 48, 49, 50] (by decide +kernel) (by decide +kernel)
set_option maxRecDepth 20000 in
theorem gX5_nextToEat_Jx4a65c_get_915e3 : GoodIn wsX5_nextToEat (wsV RX5 60 RJx4a65c yJx4a65c_get_915e3 wsJx4a65c_get_915e3) := goodIn_app (goodIn_of _ (by decide +kernel)) ggX5_nextToEat_Jx4a65c_get_915e3
set_option maxRecDepth 20000 in
theorem ggX5_nextToEat_X3_isFoodInStation : GoodIn wsX5_nextToEat wsX3_isFoodInStation := goodIn_r _ [32, 33, 34, 35, 43, 44, 45, 46, 47, 51, 52, 53] (by decide +kernel) (by decide +kernel)
set_option maxRecDepth 20000 in
theorem gX5_nextToEat_X3_isFoodInStation : GoodIn wsX5_nextToEat (wsV RX5 221 RX3 yX3_isFoodInStation wsX3_isFoodInStation) := goodIn_app (goodIn_of _ (by decide +kernel)) ggX5_nextToEat_X3_isFoodInStation
theorem dX5_nextToEat_0 : decode cX5_nextToEat 0 = .ok (.aconst_null, 1) := by decide +kernel
theorem dX5_nextToEat_1 : decode cX5_nextToEat 1 = .ok (.astore_n 1, 1) := by decide +kernel
theorem dX5_nextToEat_2 : decode cX5_nextToEat 2 = .ok (.iconst 0, 1) := by decide +kernel
theorem dX5_nextToEat_3 : decode cX5_nextToEat 3 = .ok (.istore_n 2, 1) := by decide +kernel
theorem dX5_nextToEat_4 : decode cX5_nextToEat 4 = .ok (.iload_n 2, 1) := by decide +kernel
theorem dX5_nextToEat_5 : decode cX5_nextToEat 5 = .ok (.aload_n 0, 1) := by decide +kernel
theorem dX5_nextToEat_6 : decode cX5_nextToEat 6 = .ok (.getfield 16, 3) := by decide +kernel
theorem dX5_nextToEat_9 : decode cX5_nextToEat 9 = .ok (.invokevirtual 90, 3) := by decide +kernel
theorem dX5_nextToEat_12 : decode cX5_nextToEat 12 = .ok (.if_icmp .ge 64, 3) := by decide +kernel
theorem dX5_nextToEat_15 : decode cX5_nextToEat 15 = .ok (.aload_n 0, 1) := by decide +kernel
theorem dX5_nextToEat_16 : decode cX5_nextToEat 16 = .ok (.getfield 16, 3) := by decide +kernel
theorem dX5_nextToEat_19 : decode cX5_nextToEat 19 = .ok (.iload_n 2, 1) := by decide +kernel
theorem dX5_nextToEat_20 : decode cX5_nextToEat 20 = .ok (.invokevirtual 60, 3) := by decide +kernel
theorem dX5_nextToEat_23 : decode cX5_nextToEat 23 = .ok (.checkcast 88, 3) := by decide +kernel
theorem dX5_nextToEat_26 : decode cX5_nextToEat 26 = .ok (.astore_n 3, 1) := by decide +kernel
theorem dX5_nextToEat_27 : decode cX5_nextToEat 27 = .ok (.aload_n 3, 1) := by decide +kernel
theorem dX5_nextToEat_28 : decode cX5_nextToEat 28 = .ok (.invokevirtual 221, 3) := by decide +kernel
theorem dX5_nextToEat_31 : decode cX5_nextToEat 31 = .ok (.ifCond .eq 14, 3) := by decide +kernel
theorem dX5_nextToEat_34 : decode cX5_nextToEat 34 = .ok (.aload_n 3, 1) := by decide +kernel
theorem dX5_nextToEat_35 : decode cX5_nextToEat 35 = .ok (.getfield 119, 3) := by decide +kernel
theorem dX5_nextToEat_38 : decode cX5_nextToEat 38 = .ok (.ifCond .le 7, 3) := by decide +kernel
theorem dX5_nextToEat_41 : decode cX5_nextToEat 41 = .ok (.iconst 1, 1) := by decide +kernel
theorem dX5_nextToEat_42 : decode cX5_nextToEat 42 = .ok (.goto 4, 3) := by decide +kernel
theorem dX5_nextToEat_45 : decode cX5_nextToEat 45 = .ok (.iconst 0, 1) := by decide +kernel
theorem dX5_nextToEat_46 : decode cX5_nextToEat 46 = .ok (.istore 4, 2) := by decide +kernel
theorem dX5_nextToEat_48 : decode cX5_nextToEat 48 = .ok (.iload 4, 2) := by decide +kernel
theorem dX5_nextToEat_50 : decode cX5_nextToEat 50 = .ok (.ifCond .eq 20, 3) := by decide +kernel
theorem dX5_nextToEat_53 : decode cX5_nextToEat 53 = .ok (.aload_n 1, 1) := by decide +kernel
theorem dX5_nextToEat_54 : decode cX5_nextToEat 54 = .ok (.ifnull 14, 3) := by decide +kernel
theorem dX5_nextToEat_57 : decode cX5_nextToEat 57 = .ok (.aload_n 3, 1) := by decide +kernel
theorem dX5_nextToEat_58 : decode cX5_nextToEat 58 = .ok (.getfield 134, 3) := by decide +kernel
theorem dX5_nextToEat_61 : decode cX5_nextToEat 61 = .ok (.aload_n 1, 1) := by decide +kernel
theorem dX5_nextToEat_62 : decode cX5_nextToEat 62 = .ok (.getfield 134, 3) := by decide +kernel
theorem dX5_nextToEat_65 : decode cX5_nextToEat 65 = .ok (.if_icmp .ge 5, 3) := by decide +kernel
theorem dX5_nextToEat_68 : decode cX5_nextToEat 68 = .ok (.aload_n 3, 1) := by decide +kernel
theorem dX5_nextToEat_69 : decode cX5_nextToEat 69 = .ok (.astore_n 1, 1) := by decide +kernel
theorem dX5_nextToEat_70 : decode cX5_nextToEat 70 = .ok (.iinc 2 1, 3) := by decide +kernel
theorem dX5_nextToEat_73 : decode cX5_nextToEat 73 = .ok (.goto (-69), 3) := by decide +kernel
theorem dX5_nextToEat_76 : decode cX5_nextToEat 76 = .ok (.aload_n 1, 1) := by decide +kernel
theorem dX5_nextToEat_77 : decode cX5_nextToEat 77 = .ok (.areturn, 1) := by decide +kernel

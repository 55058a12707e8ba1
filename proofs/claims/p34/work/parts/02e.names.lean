theorem dX4_empty_16 : decode cX4_empty 16 = .ok (.iconst 0, 1) := by decide +kernel
theorem dX4_empty_17 : decode cX4_empty 17 = .ok (.bastore, 1) := by decide +kernel
theorem dX4_empty_18 : decode cX4_empty 18 = .ok (.iinc 1 1, 3) := by decide +kernel
theorem dX4_empty_21 : decode cX4_empty 21 = .ok (.goto (-19), 3) := by decide +kernel
theorem dX4_empty_24 : decode cX4_empty 24 = .ok (.return_, 1) := by decide +kernel
set_option maxRecDepth 20000 in
theorem ggX5_init_X1_init : GoodIn wsX5_init wsX1_init := goodIn_r _ [23, 24, 2, 3] (by decide +kernel) (by decide +kernel)
set_option maxRecDepth 20000 in
theorem gX5_init_X1_init_n11 : GoodIn wsX5_init (wsX1_init) := ggX5_init_X1_init
set_option maxRecDepth 20000 in
theorem ggX5_init_X6_init : GoodIn wsX5_init wsX6_init := goodIn_r _ [26, 27, 2, 3, 16, 28, 103, 104, 105, 106] (by decide +kernel) (by decide +kernel)
set_option maxRecDepth 20000 in
theorem gX5_init_X6_init_n20 : GoodIn wsX5_init (wsX6_init) := ggX5_init_X6_init
set_option maxRecDepth 20000 in
theorem ggX5_init_X7_init : GoodIn wsX5_init wsX7_init := goodIn_r _ [30, 31, 2, 3, 32, 33, 16, 34, 35, 36, 107, 108, 109, 110, 111, 112] (by decide +kernel) (by decide +kernel)
set_option maxRecDepth 20000 in
theorem gX5_init_X7_init_n27 : GoodIn wsX5_init (wsX7_init) := ggX5_init_X7_init
set_option maxRecDepth 20000 in
theorem ggX5_init_X0_init : GoodIn wsX5_init wsX0_init := goodIn_r _ [38, 39, 2, 3] (by decide +kernel) (by decide +kernel)
set_option maxRecDepth 20000 in
theorem gX5_init_X0_init_n42 : GoodIn wsX5_init (wsX0_init) := ggX5_init_X0_init
set_option maxRecDepth 20000 in
theorem ggX5_init_X5_reset : GoodIn wsX5_init wsX5_reset := goodIn_r _ [44, 45, 7, 11, 15, 19, 46, 47, 48, 6, 49, 50, 51, 52, 53, 54, 55, 56, 57, 58, 59, 60, 61, 62, 63, 10, 64, 28, 65, 66, 67, 68, 69, 70, 14, 71, 33, 72, 73, 74, 75, 76, 43, 77, 17, 78, 79, 80, 21, 81, 82, 83, 84, 85, 86, 87, 88, 89, 97, 98, 99, 100, 101, 102, 90, 91, 92, 93, 94, 95, 96, 103, 104, 105, 106, 107, 108, 109, 110, 111, 112, 113, 114, 115] (by decide +kernel) (by decide +kernel)
set_option maxRecDepth 20000 in
theorem gX5_init_X5_reset : GoodIn wsX5_init (wsV RX5 43 RX5 yX5_reset wsX5_reset) := goodIn_app (goodIn_of _ (by decide +kernel)) ggX5_init_X5_reset
theorem dX5_init_0 : decode cX5_init 0 = .ok (.aload_n 0, 1) := by decide +kernel
theorem dX5_init_1 : decode cX5_init 1 = .ok (.invokespecial 3, 3) := by decide +kernel
theorem dX5_init_4 : decode cX5_init 4 = .ok (.aload_n 0, 1) := by decide +kernel
theorem dX5_init_5 : decode cX5_init 5 = .ok (.new 9, 3) := by decide +kernel
theorem dX5_init_8 : decode cX5_init 8 = .ok (.dup, 1) := by decide +kernel
theorem dX5_init_9 : decode cX5_init 9 = .ok (.invokespecial 11, 3) := by decide +kernel
theorem dX5_init_12 : decode cX5_init 12 = .ok (.putfield 12, 3) := by decide +kernel
theorem dX5_init_15 : decode cX5_init 15 = .ok (.aload_n 0, 1) := by decide +kernel
theorem dX5_init_16 : decode cX5_init 16 = .ok (.new 18, 3) := by decide +kernel
theorem dX5_init_19 : decode cX5_init 19 = .ok (.dup, 1) := by decide +kernel
theorem dX5_init_20 : decode cX5_init 20 = .ok (.invokespecial 20, 3) := by decide +kernel
theorem dX5_init_23 : decode cX5_init 23 = .ok (.putfield 21, 3) := by decide +kernel
theorem dX5_init_26 : decode cX5_init 26 = .ok (.aload_n 0, 1) := by decide +kernel
theorem dX5_init_27 : decode cX5_init 27 = .ok (.new 25, 3) := by decide +kernel
theorem dX5_init_30 : decode cX5_init 30 = .ok (.dup, 1) := by decide +kernel
theorem dX5_init_31 : decode cX5_init 31 = .ok (.invokespecial 27, 3) := by decide +kernel
theorem dX5_init_34 : decode cX5_init 34 = .ok (.putfield 28, 3) := by decide +kernel
theorem dX5_init_37 : decode cX5_init 37 = .ok (.aload_n 0, 1) := by decide +kernel
theorem dX5_init_38 : decode cX5_init 38 = .ok (.bipush 8, 2) := by decide +kernel
theorem dX5_init_40 : decode cX5_init 40 = .ok (.newarray .int, 2) := by decide +kernel
theorem dX5_init_42 : decode cX5_init 42 = .ok (.putfield 32, 3) := by decide +kernel
theorem dX5_init_45 : decode cX5_init 45 = .ok (.aload_n 0, 1) := by decide +kernel
theorem dX5_init_46 : decode cX5_init 46 = .ok (.iconst 4, 1) := by decide +kernel
theorem dX5_init_47 : decode cX5_init 47 = .ok (.anewarray 36, 3) := by decide +kernel
theorem dX5_init_50 : decode cX5_init 50 = .ok (.putfield 38, 3) := by decide +kernel
theorem dX5_init_53 : decode cX5_init 53 = .ok (.iconst 0, 1) := by decide +kernel
theorem dX5_init_54 : decode cX5_init 54 = .ok (.istore_n 1, 1) := by decide +kernel
theorem dX5_init_55 : decode cX5_init 55 = .ok (.iload_n 1, 1) := by decide +kernel
theorem dX5_init_56 : decode cX5_init 56 = .ok (.aload_n 0, 1) := by decide +kernel
theorem dX5_init_57 : decode cX5_init 57 = .ok (.getfield 38, 3) := by decide +kernel
theorem dX5_init_60 : decode cX5_init 60 = .ok (.arraylength, 1) := by decide +kernel
theorem dX5_init_61 : decode cX5_init 61 = .ok (.if_icmp .ge 22, 3) := by decide +kernel
theorem dX5_init_64 : decode cX5_init 64 = .ok (.aload_n 0, 1) := by decide +kernel
theorem dX5_init_65 : decode cX5_init 65 = .ok (.getfield 38, 3) := by decide +kernel
theorem dX5_init_68 : decode cX5_init 68 = .ok (.iload_n 1, 1) := by decide +kernel
theorem dX5_init_69 : decode cX5_init 69 = .ok (.new 36, 3) := by decide +kernel
theorem dX5_init_72 : decode cX5_init 72 = .ok (.dup, 1) := by decide +kernel
theorem dX5_init_73 : decode cX5_init 73 = .ok (.invokespecial 42, 3) := by decide +kernel
theorem dX5_init_76 : decode cX5_init 76 = .ok (.aastore, 1) := by decide +kernel
theorem dX5_init_77 : decode cX5_init 77 = .ok (.iinc 1 1, 3) := by decide +kernel
theorem dX5_init_80 : decode cX5_init 80 = .ok (.goto (-25), 3) := by decide +kernel
theorem dX5_init_83 : decode cX5_init 83 = .ok (.aload_n 0, 1) := by decide +kernel
theorem dX5_init_84 : decode cX5_init 84 = .ok (.invokevirtual 43, 3) := by decide +kernel
theorem dX5_init_87 : decode cX5_init 87 = .ok (.return_, 1) := by decide +kernel
set_option maxRecDepth 20000 in
theorem ggX5_reset_X1_reset : GoodIn wsX5_reset wsX1_reset := goodIn_r _ [10, 11, 12, 13, 14, 15, 16, 17, 9, 18, 19, 20, 21, 64, 65, 66, 67, 68, 69, 70] (by decide +kernel) (by decide +kernel)
set_option maxRecDepth 20000 in
theorem gX5_reset_X1_reset : GoodIn wsX5_reset (wsV RX5 50 RX1 yX1_reset wsX1_reset) := goodIn_app (goodIn_of _ (by decide +kernel)) ggX5_reset_X1_reset
set_option maxRecDepth 20000 in
theorem ggX5_reset_X6_reset : GoodIn wsX5_reset wsX6_reset := goodIn_r _ [26, 27, 28, 29, 30, 71, 72, 73, 74] (by decide +kernel) (by decide +kernel)
set_option maxRecDepth 20000 in
theorem gX5_reset_X6_reset : GoodIn wsX5_reset (wsV RX5 51 RX6 yX6_reset wsX6_reset) := goodIn_app (goodIn_of _ (by decide +kernel)) ggX5_reset_X6_reset
set_option maxRecDepth 20000 in
theorem ggX5_reset_X7_reset : GoodIn wsX5_reset wsX7_reset := goodIn_r _ [35, 36, 37, 38, 75, 76, 77, 78, 79, 80] (by decide +kernel) (by decide +kernel)
set_option maxRecDepth 20000 in
theorem gX5_reset_X7_reset : GoodIn wsX5_reset (wsV RX5 52 RX7 yX7_reset wsX7_reset) := goodIn_app (goodIn_of _ (by decide +kernel)) ggX5_reset_X7_reset
set_option maxRecDepth 20000 in
theorem ggX5_reset_X5_eraseRegisters : GoodIn wsX5_reset wsX5_eraseRegisters := goodIn_r _ [43, 44, 58, 59, 60, 61, 62, 63] (by decide +kernel) (by decide +kernel)
set_option maxRecDepth 20000 in
theorem gX5_reset_X5_eraseRegisters : GoodIn wsX5_reset (wsV RX5 53 RX5 yX5_eraseRegisters wsX5_eraseRegisters) := goodIn_app (goodIn_of _ (by decide +kernel)) ggX5_reset_X5_eraseRegisters
set_option maxRecDepth 20000 in
theorem ggX5_reset_X0_reset : GoodIn wsX5_reset wsX0_reset := goodIn_r _ [49, 50, 51, 52, 53, 54, 48, 55, 56, 57, 81, 82, 83] (by decide +kernel) (by decide +kernel)
set_option maxRecDepth 20000 in
theorem gX5_reset_X0_reset : GoodIn wsX5_reset (wsV RX5 56 RX0 yX0_reset wsX0_reset) := goodIn_app (goodIn_of _ (by decide +kernel)) ggX5_reset_X0_reset
theorem dX5_reset_0 : decode cX5_reset 0 = .ok (.aload_n 0, 1) := by decide +kernel
theorem dX5_reset_1 : decode cX5_reset 1 = .ok (.iconst 0, 1) := by decide +kernel
theorem dX5_reset_2 : decode cX5_reset 2 = .ok (.putfield 46, 3) := by decide +kernel
theorem dX5_reset_5 : decode cX5_reset 5 = .ok (.aload_n 0, 1) := by decide +kernel
theorem dX5_reset_6 : decode cX5_reset 6 = .ok (.getfield 12, 3) := by decide +kernel
theorem dX5_reset_9 : decode cX5_reset 9 = .ok (.invokevirtual 50, 3) := by decide +kernel
theorem dX5_reset_12 : decode cX5_reset 12 = .ok (.aload_n 0, 1) := by decide +kernel
theorem dX5_reset_13 : decode cX5_reset 13 = .ok (.getfield 21, 3) := by decide +kernel
theorem dX5_reset_16 : decode cX5_reset 16 = .ok (.invokevirtual 51, 3) := by decide +kernel
theorem dX5_reset_19 : decode cX5_reset 19 = .ok (.aload_n 0, 1) := by decide +kernel
theorem dX5_reset_20 : decode cX5_reset 20 = .ok (.getfield 28, 3) := by decide +kernel
theorem dX5_reset_23 : decode cX5_reset 23 = .ok (.invokevirtual 52, 3) := by decide +kernel
theorem dX5_reset_26 : decode cX5_reset 26 = .ok (.aload_n 0, 1) := by decide +kernel
theorem dX5_reset_27 : decode cX5_reset 27 = .ok (.invokevirtual 53, 3) := by decide +kernel
theorem dX5_reset_30 : decode cX5_reset 30 = .ok (.iconst 0, 1) := by decide +kernel
theorem dX5_reset_31 : decode cX5_reset 31 = .ok (.istore_n 1, 1) := by decide +kernel
theorem dX5_reset_32 : decode cX5_reset 32 = .ok (.iload_n 1, 1) := by decide +kernel
theorem dX5_reset_33 : decode cX5_reset 33 = .ok (.aload_n 0, 1) := by decide +kernel
theorem dX5_reset_34 : decode cX5_reset 34 = .ok (.getfield 38, 3) := by decide +kernel
theorem dX5_reset_37 : decode cX5_reset 37 = .ok (.arraylength, 1) := by decide +kernel
theorem dX5_reset_38 : decode cX5_reset 38 = .ok (.if_icmp .ge 18, 3) := by decide +kernel
theorem dX5_reset_41 : decode cX5_reset 41 = .ok (.aload_n 0, 1) := by decide +kernel
theorem dX5_reset_42 : decode cX5_reset 42 = .ok (.getfield 38, 3) := by decide +kernel
theorem dX5_reset_45 : decode cX5_reset 45 = .ok (.iload_n 1, 1) := by decide +kernel
theorem dX5_reset_46 : decode cX5_reset 46 = .ok (.aaload, 1) := by decide +kernel
theorem dX5_reset_47 : decode cX5_reset 47 = .ok (.invokevirtual 56, 3) := by decide +kernel
theorem dX5_reset_50 : decode cX5_reset 50 = .ok (.iinc 1 1, 3) := by decide +kernel
theorem dX5_reset_53 : decode cX5_reset 53 = .ok (.goto (-21), 3) := by decide +kernel
theorem dX5_reset_56 : decode cX5_reset 56 = .ok (.return_, 1) := by decide +kernel
set_option maxRecDepth 20000 in
theorem ggX5_copyFrom_X1_copyFrom : GoodIn wsX5_copyFrom wsX1_copyFrom := goodIn_r _ [15, 16, 17, 18, 19, 20, 21, 22, 59, 60, 61, 62, 63, 64, 65] (by decide +kernel) (by decide +kernel)
set_option maxRecDepth 20000 in
theorem gX5_copyFrom_X1_copyFrom : GoodIn wsX5_copyFrom (wsV RX5 57 RX1 yX1_copyFrom wsX1_copyFrom) := goodIn_app (goodIn_of _ (by decide +kernel)) ggX5_copyFrom_X1_copyFrom
set_option maxRecDepth 20000 in
theorem ggX5_copyFrom_X6_copyFrom : GoodIn wsX5_copyFrom wsX6_copyFrom := goodIn_r _ [27, 28, 29, 7, 8, 9, 30, 31, 32, 66, 67, 68, 69] (by decide +kernel) (by decide +kernel)
set_option maxRecDepth 20000 in
theorem gX5_copyFrom_X6_copyFrom : GoodIn wsX5_copyFrom (wsV RX5 61 RX6 yX6_copyFrom wsX6_copyFrom) := goodIn_app (goodIn_of _ (by decide +kernel)) ggX5_copyFrom_X6_copyFrom
set_option maxRecDepth 20000 in
theorem ggX5_copyFrom_X7_copyFrom : GoodIn wsX5_copyFrom wsX7_copyFrom := goodIn_r _ [37, 38, 39, 7, 8, 9, 40, 41, 42, 43, 44, 70, 71, 72, 73, 74, 75] (by decide +kernel) (by decide +kernel)
set_option maxRecDepth 20000 in
theorem gX5_copyFrom_X7_copyFrom : GoodIn wsX5_copyFrom (wsV RX5 64 RX7 yX7_copyFrom wsX7_copyFrom) := goodIn_app (goodIn_of _ (by decide +kernel)) ggX5_copyFrom_X7_copyFrom
set_option maxRecDepth 20000 in
theorem ggX5_copyFrom_X0_copyFrom : GoodIn wsX5_copyFrom wsX0_copyFrom := goodIn_r _ [49, 50, 51, 52, 76, 77, 78] (by decide +kernel) (by decide +kernel)
set_option maxRecDepth 20000 in
theorem gX5_copyFrom_X0_copyFrom : GoodIn wsX5_copyFrom (wsV RX5 73 RX0 yX0_copyFrom wsX0_copyFrom) := goodIn_app (goodIn_of _ (by decide +kernel)) ggX5_copyFrom_X0_copyFrom
theorem dX5_copyFrom_0 : decode cX5_copyFrom 0 = .ok (.aload_n 0, 1) := by decide +kernel
theorem dX5_copyFrom_1 : decode cX5_copyFrom 1 = .ok (.aload_n 1, 1) := by decide +kernel
theorem dX5_copyFrom_2 : decode cX5_copyFrom 2 = .ok (.getfield 46, 3) := by decide +kernel
theorem dX5_copyFrom_5 : decode cX5_copyFrom 5 = .ok (.putfield 46, 3) := by decide +kernel
theorem dX5_copyFrom_8 : decode cX5_copyFrom 8 = .ok (.aload_n 0, 1) := by decide +kernel
theorem dX5_copyFrom_9 : decode cX5_copyFrom 9 = .ok (.getfield 12, 3) := by decide +kernel
theorem dX5_copyFrom_12 : decode cX5_copyFrom 12 = .ok (.aload_n 1, 1) := by decide +kernel
theorem dX5_copyFrom_13 : decode cX5_copyFrom 13 = .ok (.getfield 12, 3) := by decide +kernel
theorem dX5_copyFrom_16 : decode cX5_copyFrom 16 = .ok (.invokevirtual 57, 3) := by decide +kernel
theorem dX5_copyFrom_19 : decode cX5_copyFrom 19 = .ok (.aload_n 0, 1) := by decide +kernel
theorem dX5_copyFrom_20 : decode cX5_copyFrom 20 = .ok (.getfield 21, 3) := by decide +kernel
theorem dX5_copyFrom_23 : decode cX5_copyFrom 23 = .ok (.aload_n 1, 1) := by decide +kernel
theorem dX5_copyFrom_24 : decode cX5_copyFrom 24 = .ok (.getfield 21, 3) := by decide +kernel
theorem dX5_copyFrom_27 : decode cX5_copyFrom 27 = .ok (.invokevirtual 61, 3) := by decide +kernel
theorem dX5_copyFrom_30 : decode cX5_copyFrom 30 = .ok (.aload_n 0, 1) := by decide +kernel
theorem dX5_copyFrom_31 : decode cX5_copyFrom 31 = .ok (.getfield 28, 3) := by decide +kernel
theorem dX5_copyFrom_34 : decode cX5_copyFrom 34 = .ok (.aload_n 1, 1) := by decide +kernel
theorem dX5_copyFrom_35 : decode cX5_copyFrom 35 = .ok (.getfield 28, 3) := by decide +kernel
theorem dX5_copyFrom_38 : decode cX5_copyFrom 38 = .ok (.invokevirtual 64, 3) := by decide +kernel
theorem dX5_copyFrom_41 : decode cX5_copyFrom 41 = .ok (.aload_n 1, 1) := by decide +kernel
theorem dX5_copyFrom_42 : decode cX5_copyFrom 42 = .ok (.getfield 32, 3) := by decide +kernel
theorem dX5_copyFrom_45 : decode cX5_copyFrom 45 = .ok (.iconst 0, 1) := by decide +kernel
theorem dX5_copyFrom_46 : decode cX5_copyFrom 46 = .ok (.aload_n 0, 1) := by decide +kernel
theorem dX5_copyFrom_47 : decode cX5_copyFrom 47 = .ok (.getfield 32, 3) := by decide +kernel
theorem dX5_copyFrom_50 : decode cX5_copyFrom 50 = .ok (.iconst 0, 1) := by decide +kernel
theorem dX5_copyFrom_51 : decode cX5_copyFrom 51 = .ok (.bipush 8, 2) := by decide +kernel
theorem dX5_copyFrom_53 : decode cX5_copyFrom 53 = .ok (.invokestatic 67, 3) := by decide +kernel
theorem dX5_copyFrom_56 : decode cX5_copyFrom 56 = .ok (.iconst 0, 1) := by decide +kernel
theorem dX5_copyFrom_57 : decode cX5_copyFrom 57 = .ok (.istore_n 2, 1) := by decide +kernel
theorem dX5_copyFrom_58 : decode cX5_copyFrom 58 = .ok (.iload_n 2, 1) := by decide +kernel
theorem dX5_copyFrom_59 : decode cX5_copyFrom 59 = .ok (.aload_n 0, 1) := by decide +kernel
theorem dX5_copyFrom_60 : decode cX5_copyFrom 60 = .ok (.getfield 38, 3) := by decide +kernel
theorem dX5_copyFrom_63 : decode cX5_copyFrom 63 = .ok (.arraylength, 1) := by decide +kernel
theorem dX5_copyFrom_64 : decode cX5_copyFrom 64 = .ok (.if_icmp .ge 24, 3) := by decide +kernel
theorem dX5_copyFrom_67 : decode cX5_copyFrom 67 = .ok (.aload_n 0, 1) := by decide +kernel
theorem dX5_copyFrom_68 : decode cX5_copyFrom 68 = .ok (.getfield 38, 3) := by decide +kernel
theorem dX5_copyFrom_71 : decode cX5_copyFrom 71 = .ok (.iload_n 2, 1) := by decide +kernel
theorem dX5_copyFrom_72 : decode cX5_copyFrom 72 = .ok (.aaload, 1) := by decide +kernel
theorem dX5_copyFrom_73 : decode cX5_copyFrom 73 = .ok (.aload_n 1, 1) := by decide +kernel
theorem dX5_copyFrom_74 : decode cX5_copyFrom 74 = .ok (.getfield 38, 3) := by decide +kernel
theorem dX5_copyFrom_77 : decode cX5_copyFrom 77 = .ok (.iload_n 2, 1) := by decide +kernel
theorem dX5_copyFrom_78 : decode cX5_copyFrom 78 = .ok (.aaload, 1) := by decide +kernel
theorem dX5_copyFrom_79 : decode cX5_copyFrom 79 = .ok (.invokevirtual 73, 3) := by decide +kernel
theorem dX5_copyFrom_82 : decode cX5_copyFrom 82 = .ok (.iinc 2 1, 3) := by decide +kernel
theorem dX5_copyFrom_85 : decode cX5_copyFrom 85 = .ok (.goto (-27), 3) := by decide +kernel
theorem dX5_copyFrom_88 : decode cX5_copyFrom 88 = .ok (.return_, 1) := by decide +kernel
set_option maxRecDepth 20000 in
theorem ggX5_isWritable_X6_domain : GoodIn wsX5_isWritable wsX6_domain := goodIn_r _ [6, 7, 8, 15, 16, 17, 18] (by decide +kernel) (by decide +kernel)
set_option maxRecDepth 20000 in
theorem gX5_isWritable_X6_domain : GoodIn wsX5_isWritable (wsV RX5 76 RX6 yX6_domain wsX6_domain) := goodIn_app (goodIn_of _ (by decide +kernel)) ggX5_isWritable_X6_domain
theorem dX5_isWritable_0 : decode cX5_isWritable 0 = .ok (.aload_n 0, 1) := by decide +kernel
theorem dX5_isWritable_1 : decode cX5_isWritable 1 = .ok (.getfield 21, 3) := by decide +kernel
theorem dX5_isWritable_4 : decode cX5_isWritable 4 = .ok (.invokevirtual 76, 3) := by decide +kernel
theorem dX5_isWritable_7 : decode cX5_isWritable 7 = .ok (.ifCond .ne 7, 3) := by decide +kernel
theorem dX5_isWritable_10 : decode cX5_isWritable 10 = .ok (.iconst 1, 1) := by decide +kernel
theorem dX5_isWritable_11 : decode cX5_isWritable 11 = .ok (.goto 4, 3) := by decide +kernel
theorem dX5_isWritable_14 : decode cX5_isWritable 14 = .ok (.iconst 0, 1) := by decide +kernel
theorem dX5_isWritable_15 : decode cX5_isWritable 15 = .ok (.ireturn, 1) := by decide +kernel
theorem dX5_offset_0 : decode cX5_offset 0 = .ok (.aload_n 0, 1) := by decide +kernel
theorem dX5_offset_1 : decode cX5_offset 1 = .ok (.getfield 12, 3) := by decide +kernel
theorem dX5_offset_4 : decode cX5_offset 4 = .ok (.getfield 80, 3) := by decide +kernel
theorem dX5_offset_7 : decode cX5_offset 7 = .ok (.bipush 60, 2) := by decide +kernel
theorem dX5_offset_9 : decode cX5_offset 9 = .ok (.aload_n 0, 1) := by decide +kernel
theorem dX5_offset_10 : decode cX5_offset 10 = .ok (.getfield 46, 3) := by decide +kernel
theorem dX5_offset_13 : decode cX5_offset 13 = .ok (.imul, 1) := by decide +kernel
theorem dX5_offset_14 : decode cX5_offset 14 = .ok (.isub, 1) := by decide +kernel
theorem dX5_offset_15 : decode cX5_offset 15 = .ok (.ireturn, 1) := by decide +kernel
set_option maxRecDepth 20000 in
theorem ggX5_passMinutes_X5_passMinute : GoodIn wsX5_passMinutes wsX5_passMinute := goodIn_r _ [5, 6, 7, 8, 9, 10, 11, 12, 13, 14, 15, 16, 17, 18, 19, 20, 21, 22, 23, 4, 24, 25, 26, 27, 28, 29, 30, 31, 32, 33, 34, 35, 36, 37, 38, 39, 40, 41, 42, 43, 44, 45, 46, 47, 48, 49, 50, 51, 52, 53, 54, 55, 56, 57, 58, 59, 60, 61, 62, 63, 64, 65, 66, 67, 68, 69, 70, 71, 72, 73, 74, 75, 76, 77, 78, 79, 80, 81, 82, 83, 84, 85, 86, 87, 88, 89, 90, 91, 92, 93, 94, 95, 96, 97, 98, 99, 100, 101, 102, 103, 104, 105, 106, 107, 108, 109, 110] (by decide +kernel) (by decide +kernel)
set_option maxRecDepth 20000 in
theorem gX5_passMinutes_X5_passMinute : GoodIn wsX5_passMinutes (wsV RX5 83 RX5 yX5_passMinute wsX5_passMinute) := goodIn_app (goodIn_of _ (by decide +kernel)) ggX5_passMinutes_X5_passMinute
theorem dX5_passMinutes_0 : decode cX5_passMinutes 0 = .ok (.iconst 0, 1) := by decide +kernel
theorem dX5_passMinutes_1 : decode cX5_passMinutes 1 = .ok (.istore_n 2, 1) := by decide +kernel
theorem dX5_passMinutes_2 : decode cX5_passMinutes 2 = .ok (.iload_n 2, 1) := by decide +kernel
theorem dX5_passMinutes_3 : decode cX5_passMinutes 3 = .ok (.iload_n 1, 1) := by decide +kernel
theorem dX5_passMinutes_4 : decode cX5_passMinutes 4 = .ok (.if_icmp .ge 13, 3) := by decide +kernel
theorem dX5_passMinutes_7 : decode cX5_passMinutes 7 = .ok (.aload_n 0, 1) := by decide +kernel
theorem dX5_passMinutes_8 : decode cX5_passMinutes 8 = .ok (.invokevirtual 83, 3) := by decide +kernel
theorem dX5_passMinutes_11 : decode cX5_passMinutes 11 = .ok (.iinc 2 1, 3) := by decide +kernel
theorem dX5_passMinutes_14 : decode cX5_passMinutes 14 = .ok (.goto (-12), 3) := by decide +kernel
theorem dX5_passMinutes_17 : decode cX5_passMinutes 17 = .ok (.return_, 1) := by decide +kernel
set_option maxRecDepth 20000 in
theorem ggX5_passMinute_X6_domain : GoodIn wsX5_passMinute wsX6_domain := goodIn_r _ [7, 8, 9, 87, 88, 89, 90] (by decide +kernel) (by decide +kernel)
set_option maxRecDepth 20000 in
theorem gX5_passMinute_X6_domain : GoodIn wsX5_passMinute (wsV RX5 76 RX6 yX6_domain wsX6_domain) := goodIn_app (goodIn_of _ (by decide +kernel)) ggX5_passMinute_X6_domain
set_option maxRecDepth 20000 in
theorem ggX5_passMinute_X6_spendMinute : GoodIn wsX5_passMinute wsX6_spendMinute := goodIn_r _ [13, 14, 9, 15, 4, 5, 6, 7, 8, 87, 88, 89, 90] (by decide +kernel) (by decide +kernel)
set_option maxRecDepth 20000 in
theorem gX5_passMinute_X6_spendMinute : GoodIn wsX5_passMinute (wsV RX5 86 RX6 yX6_spendMinute wsX6_spendMinute) := goodIn_app (goodIn_of _ (by decide +kernel)) ggX5_passMinute_X6_spendMinute
set_option maxRecDepth 20000 in
theorem ggX5_passMinute_X5_settle : GoodIn wsX5_passMinute wsX5_settle := goodIn_r _ [20, 1, 3, 4, 5, 6, 7, 8, 9, 21, 22, 23, 19, 24, 25, 26, 27, 28, 29, 30, 31, 32, 33, 34, 35, 36, 37, 38, 39, 40, 41, 42, 43, 44, 45, 46, 47, 48, 49, 50, 51, 52, 53, 54, 81, 82, 83, 84, 85, 86, 87, 88, 89, 90, 91, 92, 93, 94, 95, 96, 97, 98, 99, 100, 101, 102, 103, 104, 105, 106] (by decide +kernel) (by decide +kernel)
set_option maxRecDepth 20000 in
theorem gX5_passMinute_X5_settle : GoodIn wsX5_passMinute (wsV RX5 89 RX5 yX5_settle wsX5_settle) := goodIn_app (goodIn_of _ (by decide +kernel)) ggX5_passMinute_X5_settle
set_option maxRecDepth 20000 in
theorem ggX5_passMinute_X5_goOn : GoodIn wsX5_passMinute wsX5_goOn := goodIn_r _ [58, 26, 29, 1, 59, 60, 61, 34, 62, 36, 63, 64, 65, 66, 67, 68, 37, 69, 70, 71, 72, 73, 74, 51, 75, 76, 3, 4, 5, 6, 7, 8, 9, 77, 78, 79, 80, 54, 53, 81, 82, 83, 84, 85, 86, 100, 101, 102, 103, 104, 105, 106, 97, 98, 99, 87, 88, 89, 90] (by decide +kernel) (by decide +kernel)
set_option maxRecDepth 20000 in
theorem gX5_passMinute_X5_goOn : GoodIn wsX5_passMinute (wsV RX5 93 RX5 yX5_goOn wsX5_goOn) := goodIn_app (goodIn_of _ (by decide +kernel)) ggX5_passMinute_X5_goOn
theorem dX5_passMinute_0 : decode cX5_passMinute 0 = .ok (.aload_n 0, 1) := by decide +kernel
theorem dX5_passMinute_1 : decode cX5_passMinute 1 = .ok (.getfield 21, 3) := by decide +kernel
theorem dX5_passMinute_4 : decode cX5_passMinute 4 = .ok (.invokevirtual 76, 3) := by decide +kernel
theorem dX5_passMinute_7 : decode cX5_passMinute 7 = .ok (.istore_n 1, 1) := by decide +kernel
theorem dX5_passMinute_8 : decode cX5_passMinute 8 = .ok (.aload_n 0, 1) := by decide +kernel
theorem dX5_passMinute_9 : decode cX5_passMinute 9 = .ok (.dup, 1) := by decide +kernel
theorem dX5_passMinute_10 : decode cX5_passMinute 10 = .ok (.getfield 46, 3) := by decide +kernel
theorem dX5_passMinute_13 : decode cX5_passMinute 13 = .ok (.iconst 1, 1) := by decide +kernel
theorem dX5_passMinute_14 : decode cX5_passMinute 14 = .ok (.iadd, 1) := by decide +kernel
theorem dX5_passMinute_15 : decode cX5_passMinute 15 = .ok (.putfield 46, 3) := by decide +kernel
theorem dX5_passMinute_18 : decode cX5_passMinute 18 = .ok (.aload_n 0, 1) := by decide +kernel
theorem dX5_passMinute_19 : decode cX5_passMinute 19 = .ok (.getfield 21, 3) := by decide +kernel
theorem dX5_passMinute_22 : decode cX5_passMinute 22 = .ok (.invokevirtual 86, 3) := by decide +kernel
theorem dX5_passMinute_25 : decode cX5_passMinute 25 = .ok (.aload_n 0, 1) := by decide +kernel
theorem dX5_passMinute_26 : decode cX5_passMinute 26 = .ok (.iload_n 1, 1) := by decide +kernel
theorem dX5_passMinute_27 : decode cX5_passMinute 27 = .ok (.invokevirtual 89, 3) := by decide +kernel
theorem dX5_passMinute_30 : decode cX5_passMinute 30 = .ok (.aload_n 0, 1) := by decide +kernel
theorem dX5_passMinute_31 : decode cX5_passMinute 31 = .ok (.getfield 21, 3) := by decide +kernel
theorem dX5_passMinute_34 : decode cX5_passMinute 34 = .ok (.invokevirtual 76, 3) := by decide +kernel
theorem dX5_passMinute_37 : decode cX5_passMinute 37 = .ok (.iconst 3, 1) := by decide +kernel
theorem dX5_passMinute_38 : decode cX5_passMinute 38 = .ok (.if_icmp .eq 7, 3) := by decide +kernel
theorem dX5_passMinute_41 : decode cX5_passMinute 41 = .ok (.aload_n 0, 1) := by decide +kernel
theorem dX5_passMinute_42 : decode cX5_passMinute 42 = .ok (.invokevirtual 93, 3) := by decide +kernel
theorem dX5_passMinute_45 : decode cX5_passMinute 45 = .ok (.return_, 1) := by decide +kernel
set_option maxRecDepth 20000 in
theorem ggX5_goOn_X1_minute : GoodIn wsX5_goOn wsX1_minute := goodIn_r _ [8, 9, 45, 46, 47, 48, 49, 50, 51] (by decide +kernel) (by decide +kernel)
set_option maxRecDepth 20000 in
theorem gX5_goOn_X1_minute : GoodIn wsX5_goOn (wsV RX5 96 RX1 yX1_minute wsX1_minute) := goodIn_app (goodIn_of _ (by decide +kernel)) ggX5_goOn_X1_minute
set_option maxRecDepth 20000 in
theorem ggX5_goOn_X1_goOn : GoodIn wsX5_goOn wsX1_goOn := goodIn_r _ [13, 14, 15, 9, 16, 17, 18, 19, 45, 46, 47, 48, 49, 50, 51] (by decide +kernel) (by decide +kernel)
set_option maxRecDepth 20000 in
theorem gX5_goOn_X1_goOn : GoodIn wsX5_goOn (wsV RX5 99 RX1 yX1_goOn wsX1_goOn) := goodIn_app (goodIn_of _ (by decide +kernel)) ggX5_goOn_X1_goOn
set_option maxRecDepth 20000 in
theorem ggX5_goOn_X0_isDue : GoodIn wsX5_goOn wsX0_isDue := goodIn_r _ [24, 25, 52, 53, 54] (by decide +kernel) (by decide +kernel)
set_option maxRecDepth 20000 in
theorem gX5_goOn_X0_isDue : GoodIn wsX5_goOn (wsV RX5 100 RX0 yX0_isDue wsX0_isDue) := goodIn_app (goodIn_of _ (by decide +kernel)) ggX5_goOn_X0_isDue
set_option maxRecDepth 20000 in
theorem ggX5_goOn_X6_domain : GoodIn wsX5_goOn wsX6_domain := goodIn_r _ [30, 31, 32, 55, 56, 57, 58] (by decide +kernel) (by decide +kernel)
set_option maxRecDepth 20000 in
theorem gX5_goOn_X6_domain : GoodIn wsX5_goOn (wsV RX5 76 RX6 yX6_domain wsX6_domain) := goodIn_app (goodIn_of _ (by decide +kernel)) ggX5_goOn_X6_domain
set_option maxRecDepth 20000 in
theorem ggX5_goOn_X0_come : GoodIn wsX5_goOn wsX0_come := goodIn_r _ [36, 37, 38, 52, 53, 54] (by decide +kernel) (by decide +kernel)
set_option maxRecDepth 20000 in
theorem gX5_goOn_X0_come : GoodIn wsX5_goOn (wsV RX5 104 RX0 yX0_come wsX0_come) := goodIn_app (goodIn_of _ (by decide +kernel)) ggX5_goOn_X0_come
theorem dX5_goOn_0 : decode cX5_goOn 0 = .ok (.aload_n 0, 1) := by decide +kernel
theorem dX5_goOn_1 : decode cX5_goOn 1 = .ok (.getfield 12, 3) := by decide +kernel
theorem dX5_goOn_4 : decode cX5_goOn 4 = .ok (.invokevirtual 96, 3) := by decide +kernel
theorem dX5_goOn_7 : decode cX5_goOn 7 = .ok (.istore_n 1, 1) := by decide +kernel
theorem dX5_goOn_8 : decode cX5_goOn 8 = .ok (.aload_n 0, 1) := by decide +kernel
theorem dX5_goOn_9 : decode cX5_goOn 9 = .ok (.getfield 12, 3) := by decide +kernel
theorem dX5_goOn_12 : decode cX5_goOn 12 = .ok (.invokevirtual 99, 3) := by decide +kernel
theorem dX5_goOn_15 : decode cX5_goOn 15 = .ok (.iconst 0, 1) := by decide +kernel
theorem dX5_goOn_16 : decode cX5_goOn 16 = .ok (.istore_n 2, 1) := by decide +kernel
theorem dX5_goOn_17 : decode cX5_goOn 17 = .ok (.iload_n 2, 1) := by decide +kernel
theorem dX5_goOn_18 : decode cX5_goOn 18 = .ok (.aload_n 0, 1) := by decide +kernel
theorem dX5_goOn_19 : decode cX5_goOn 19 = .ok (.getfield 38, 3) := by decide +kernel
theorem dX5_goOn_22 : decode cX5_goOn 22 = .ok (.arraylength, 1) := by decide +kernel
theorem dX5_goOn_23 : decode cX5_goOn 23 = .ok (.if_icmp .ge 45, 3) := by decide +kernel
theorem dX5_goOn_26 : decode cX5_goOn 26 = .ok (.aload_n 0, 1) := by decide +kernel
theorem dX5_goOn_27 : decode cX5_goOn 27 = .ok (.getfield 38, 3) := by decide +kernel
theorem dX5_goOn_30 : decode cX5_goOn 30 = .ok (.iload_n 2, 1) := by decide +kernel
theorem dX5_goOn_31 : decode cX5_goOn 31 = .ok (.aaload, 1) := by decide +kernel
theorem dX5_goOn_32 : decode cX5_goOn 32 = .ok (.iload_n 1, 1) := by decide +kernel
theorem dX5_goOn_33 : decode cX5_goOn 33 = .ok (.aload_n 0, 1) := by decide +kernel
theorem dX5_goOn_34 : decode cX5_goOn 34 = .ok (.getfield 12, 3) := by decide +kernel
theorem dX5_goOn_37 : decode cX5_goOn 37 = .ok (.invokevirtual 96, 3) := by decide +kernel
theorem dX5_goOn_40 : decode cX5_goOn 40 = .ok (.invokevirtual 100, 3) := by decide +kernel
theorem dX5_goOn_43 : decode cX5_goOn 43 = .ok (.ifCond .eq 19, 3) := by decide +kernel
theorem dX5_goOn_46 : decode cX5_goOn 46 = .ok (.aload_n 0, 1) := by decide +kernel
theorem dX5_goOn_47 : decode cX5_goOn 47 = .ok (.getfield 38, 3) := by decide +kernel
theorem dX5_goOn_50 : decode cX5_goOn 50 = .ok (.iload_n 2, 1) := by decide +kernel
theorem dX5_goOn_51 : decode cX5_goOn 51 = .ok (.aaload, 1) := by decide +kernel
theorem dX5_goOn_52 : decode cX5_goOn 52 = .ok (.aload_n 0, 1) := by decide +kernel
theorem dX5_goOn_53 : decode cX5_goOn 53 = .ok (.getfield 21, 3) := by decide +kernel
theorem dX5_goOn_56 : decode cX5_goOn 56 = .ok (.invokevirtual 76, 3) := by decide +kernel
theorem dX5_goOn_59 : decode cX5_goOn 59 = .ok (.invokevirtual 104, 3) := by decide +kernel
theorem dX5_goOn_62 : decode cX5_goOn 62 = .ok (.iinc 2 1, 3) := by decide +kernel
theorem dX5_goOn_65 : decode cX5_goOn 65 = .ok (.goto (-48), 3) := by decide +kernel
theorem dX5_goOn_68 : decode cX5_goOn 68 = .ok (.return_, 1) := by decide +kernel
set_option maxRecDepth 20000 in
theorem ggX5_changeLevel_X6_domain : GoodIn wsX5_changeLevel wsX6_domain := goodIn_r _ [7, 8, 9, 55, 56, 57, 58] (by decide +kernel) (by decide +kernel)
set_option maxRecDepth 20000 in
theorem gX5_changeLevel_X6_domain : GoodIn wsX5_changeLevel (wsV RX5 76 RX6 yX6_domain wsX6_domain) := goodIn_app (goodIn_of _ (by decide +kernel)) ggX5_changeLevel_X6_domain
set_option maxRecDepth 20000 in
theorem ggX5_changeLevel_X5_settle : GoodIn wsX5_changeLevel wsX5_settle := goodIn_r _ [14, 1, 3, 4, 5, 6, 7, 8, 9, 15, 16, 17, 13, 18, 19, 20, 21, 22, 23, 24, 25, 26, 27, 28, 29, 30, 31, 32, 33, 34, 35, 36, 37, 38, 39, 40, 41, 42, 43, 44, 45, 46, 47, 48, 49, 50, 51, 52, 53, 54, 55, 56, 57, 58, 59, 60, 61, 62, 63, 64, 65, 66, 67, 68, 69, 70, 71, 72, 73, 74] (by decide +kernel) (by decide +kernel)
set_option maxRecDepth 20000 in
theorem gX5_changeLevel_X5_settle : GoodIn wsX5_changeLevel (wsV RX5 89 RX5 yX5_settle wsX5_settle) := goodIn_app (goodIn_of _ (by decide +kernel)) ggX5_changeLevel_X5_settle
theorem dX5_changeLevel_0 : decode cX5_changeLevel 0 = .ok (.aload_n 0, 1) := by decide +kernel
theorem dX5_changeLevel_1 : decode cX5_changeLevel 1 = .ok (.getfield 21, 3) := by decide +kernel
theorem dX5_changeLevel_4 : decode cX5_changeLevel 4 = .ok (.invokevirtual 76, 3) := by decide +kernel
theorem dX5_changeLevel_7 : decode cX5_changeLevel 7 = .ok (.istore_n 2, 1) := by decide +kernel
theorem dX5_changeLevel_8 : decode cX5_changeLevel 8 = .ok (.aload_n 0, 1) := by decide +kernel
theorem dX5_changeLevel_9 : decode cX5_changeLevel 9 = .ok (.getfield 21, 3) := by decide +kernel
theorem dX5_changeLevel_12 : decode cX5_changeLevel 12 = .ok (.iload_n 1, 1) := by decide +kernel
theorem dX5_changeLevel_13 : decode cX5_changeLevel 13 = .ok (.putfield 107, 3) := by decide +kernel
theorem dX5_changeLevel_16 : decode cX5_changeLevel 16 = .ok (.aload_n 0, 1) := by decide +kernel
theorem dX5_changeLevel_17 : decode cX5_changeLevel 17 = .ok (.iload_n 2, 1) := by decide +kernel
theorem dX5_changeLevel_18 : decode cX5_changeLevel 18 = .ok (.invokevirtual 89, 3) := by decide +kernel
theorem dX5_changeLevel_21 : decode cX5_changeLevel 21 = .ok (.return_, 1) := by decide +kernel
set_option maxRecDepth 20000 in
theorem ggX5_changeBattery_X6_domain : GoodIn wsX5_changeBattery wsX6_domain := goodIn_r _ [7, 8, 9, 55, 56, 57, 58] (by decide +kernel) (by decide +kernel)
set_option maxRecDepth 20000 in
theorem gX5_changeBattery_X6_domain : GoodIn wsX5_changeBattery (wsV RX5 76 RX6 yX6_domain wsX6_domain) := goodIn_app (goodIn_of _ (by decide +kernel)) ggX5_changeBattery_X6_domain
set_option maxRecDepth 20000 in
theorem ggX5_changeBattery_X5_settle : GoodIn wsX5_changeBattery wsX5_settle := goodIn_r _ [14, 1, 3, 4, 5, 6, 7, 8, 9, 15, 16, 17, 13, 18, 19, 20, 21, 22, 23, 24, 25, 26, 27, 28, 29, 30, 31, 32, 33, 34, 35, 36, 37, 38, 39, 40, 41, 42, 43, 44, 45, 46, 47, 48, 49, 50, 51, 52, 53, 54, 55, 56, 57, 58, 59, 60, 61, 62, 63, 64, 65, 66, 67, 68, 69, 70, 71, 72, 73, 74] (by decide +kernel) (by decide +kernel)
set_option maxRecDepth 20000 in
theorem gX5_changeBattery_X5_settle : GoodIn wsX5_changeBattery (wsV RX5 89 RX5 yX5_settle wsX5_settle) := goodIn_app (goodIn_of _ (by decide +kernel)) ggX5_changeBattery_X5_settle
theorem dX5_changeBattery_0 : decode cX5_changeBattery 0 = .ok (.aload_n 0, 1) := by decide +kernel
theorem dX5_changeBattery_1 : decode cX5_changeBattery 1 = .ok (.getfield 21, 3) := by decide +kernel
theorem dX5_changeBattery_4 : decode cX5_changeBattery 4 = .ok (.invokevirtual 76, 3) := by decide +kernel
theorem dX5_changeBattery_7 : decode cX5_changeBattery 7 = .ok (.istore_n 2, 1) := by decide +kernel
theorem dX5_changeBattery_8 : decode cX5_changeBattery 8 = .ok (.aload_n 0, 1) := by decide +kernel
theorem dX5_changeBattery_9 : decode cX5_changeBattery 9 = .ok (.getfield 21, 3) := by decide +kernel
theorem dX5_changeBattery_12 : decode cX5_changeBattery 12 = .ok (.iload_n 1, 1) := by decide +kernel
theorem dX5_changeBattery_13 : decode cX5_changeBattery 13 = .ok (.putfield 110, 3) := by decide +kernel
theorem dX5_changeBattery_16 : decode cX5_changeBattery 16 = .ok (.aload_n 0, 1) := by decide +kernel
theorem dX5_changeBattery_17 : decode cX5_changeBattery 17 = .ok (.iload_n 2, 1) := by decide +kernel
theorem dX5_changeBattery_18 : decode cX5_changeBattery 18 = .ok (.invokevirtual 89, 3) := by decide +kernel
theorem dX5_changeBattery_21 : decode cX5_changeBattery 21 = .ok (.return_, 1) := by decide +kernel
set_option maxRecDepth 20000 in
theorem ggX5_settle_X6_domain : GoodIn wsX5_settle wsX6_domain := goodIn_r _ [6, 7, 8, 50, 51, 52, 53] (by decide +kernel) (by decide +kernel)
set_option maxRecDepth 20000 in
theorem gX5_settle_X6_domain : GoodIn wsX5_settle (wsV RX5 76 RX6 yX6_domain wsX6_domain) := goodIn_app (goodIn_of _ (by decide +kernel)) ggX5_settle_X6_domain
set_option maxRecDepth 20000 in
theorem ggX5_settle_X5_lose : GoodIn wsX5_settle wsX5_lose := goodIn_r _ [13, 1, 14, 15, 16, 17, 18, 19, 20, 21, 22, 23, 24, 25, 26, 27, 28, 29, 30, 12, 31, 32, 44, 45, 46, 47, 48, 49, 50, 51, 52, 53, 54, 55, 56, 57, 58, 59, 60, 61, 62, 63, 64, 65, 66, 67, 68, 69] (by decide +kernel) (by decide +kernel)
set_option maxRecDepth 20000 in
theorem gX5_settle_X5_lose : GoodIn wsX5_settle (wsV RX5 113 RX5 yX5_lose wsX5_lose) := goodIn_app (goodIn_of _ (by decide +kernel)) ggX5_settle_X5_lose
set_option maxRecDepth 20000 in
theorem ggX5_settle_X5_ringWaiting : GoodIn wsX5_settle wsX5_ringWaiting := goodIn_r _ [36, 18, 37, 38, 39, 40, 41, 42, 43, 44, 45, 46, 47, 48, 49, 60, 61, 62] (by decide +kernel) (by decide +kernel)
set_option maxRecDepth 20000 in
theorem gX5_settle_X5_ringWaiting : GoodIn wsX5_settle (wsV RX5 116 RX5 yX5_ringWaiting wsX5_ringWaiting) := goodIn_app (goodIn_of _ (by decide +kernel)) ggX5_settle_X5_ringWaiting
theorem dX5_settle_0 : decode cX5_settle 0 = .ok (.aload_n 0, 1) := by decide +kernel
theorem dX5_settle_1 : decode cX5_settle 1 = .ok (.getfield 21, 3) := by decide +kernel
theorem dX5_settle_4 : decode cX5_settle 4 = .ok (.invokevirtual 76, 3) := by decide +kernel
theorem dX5_settle_7 : decode cX5_settle 7 = .ok (.istore_n 2, 1) := by decide +kernel
theorem dX5_settle_8 : decode cX5_settle 8 = .ok (.iload_n 2, 1) := by decide +kernel
theorem dX5_settle_9 : decode cX5_settle 9 = .ok (.iload_n 1, 1) := by decide +kernel
theorem dX5_settle_10 : decode cX5_settle 10 = .ok (.if_icmp .ne 4, 3) := by decide +kernel
theorem dX5_settle_13 : decode cX5_settle 13 = .ok (.return_, 1) := by decide +kernel
theorem dX5_settle_14 : decode cX5_settle 14 = .ok (.iload_n 2, 1) := by decide +kernel
theorem dX5_settle_15 : decode cX5_settle 15 = .ok (.iconst 3, 1) := by decide +kernel
theorem dX5_settle_16 : decode cX5_settle 16 = .ok (.if_icmp .ne 10, 3) := by decide +kernel
theorem dX5_settle_19 : decode cX5_settle 19 = .ok (.aload_n 0, 1) := by decide +kernel
theorem dX5_settle_20 : decode cX5_settle 20 = .ok (.invokevirtual 113, 3) := by decide +kernel
theorem dX5_settle_23 : decode cX5_settle 23 = .ok (.goto 11, 3) := by decide +kernel
theorem dX5_settle_26 : decode cX5_settle 26 = .ok (.iload_n 2, 1) := by decide +kernel
theorem dX5_settle_27 : decode cX5_settle 27 = .ok (.ifCond .ne 7, 3) := by decide +kernel
theorem dX5_settle_30 : decode cX5_settle 30 = .ok (.aload_n 0, 1) := by decide +kernel
theorem dX5_settle_31 : decode cX5_settle 31 = .ok (.invokevirtual 116, 3) := by decide +kernel
theorem dX5_settle_34 : decode cX5_settle 34 = .ok (.return_, 1) := by decide +kernel
set_option maxRecDepth 20000 in
theorem ggX5_lose_X1_lose : GoodIn wsX5_lose wsX1_lose := goodIn_r _ [12, 13, 14, 15, 41, 42, 43, 44, 45, 46, 47] (by decide +kernel) (by decide +kernel)
set_option maxRecDepth 20000 in
theorem gX5_lose_X1_lose : GoodIn wsX5_lose (wsV RX5 122 RX1 yX1_lose wsX1_lose) := goodIn_app (goodIn_of _ (by decide +kernel)) ggX5_lose_X1_lose
set_option maxRecDepth 20000 in
theorem ggX5_lose_X5_eraseRegisters : GoodIn wsX5_lose wsX5_eraseRegisters := goodIn_r _ [20, 21, 22, 23, 24, 25, 26, 27] (by decide +kernel) (by decide +kernel)
set_option maxRecDepth 20000 in
theorem gX5_lose_X5_eraseRegisters : GoodIn wsX5_lose (wsV RX5 53 RX5 yX5_eraseRegisters wsX5_eraseRegisters) := goodIn_app (goodIn_of _ (by decide +kernel)) ggX5_lose_X5_eraseRegisters
theorem dX5_lose_0 : decode cX5_lose 0 = .ok (.aload_n 0, 1) := by decide +kernel
theorem dX5_lose_1 : decode cX5_lose 1 = .ok (.getfield 21, 3) := by decide +kernel
theorem dX5_lose_4 : decode cX5_lose 4 = .ok (.dup, 1) := by decide +kernel
theorem dX5_lose_5 : decode cX5_lose 5 = .ok (.getfield 119, 3) := by decide +kernel
theorem dX5_lose_8 : decode cX5_lose 8 = .ok (.iconst 1, 1) := by decide +kernel
theorem dX5_lose_9 : decode cX5_lose 9 = .ok (.iadd, 1) := by decide +kernel
theorem dX5_lose_10 : decode cX5_lose 10 = .ok (.putfield 119, 3) := by decide +kernel
theorem dX5_lose_13 : decode cX5_lose 13 = .ok (.aload_n 0, 1) := by decide +kernel
theorem dX5_lose_14 : decode cX5_lose 14 = .ok (.getfield 12, 3) := by decide +kernel
theorem dX5_lose_17 : decode cX5_lose 17 = .ok (.invokevirtual 122, 3) := by decide +kernel
theorem dX5_lose_20 : decode cX5_lose 20 = .ok (.aload_n 0, 1) := by decide +kernel
theorem dX5_lose_21 : decode cX5_lose 21 = .ok (.invokevirtual 53, 3) := by decide +kernel
theorem dX5_lose_24 : decode cX5_lose 24 = .ok (.aload_n 0, 1) := by decide +kernel
theorem dX5_lose_25 : decode cX5_lose 25 = .ok (.getfield 28, 3) := by decide +kernel
theorem dX5_lose_28 : decode cX5_lose 28 = .ok (.iconst 0, 1) := by decide +kernel
theorem dX5_lose_29 : decode cX5_lose 29 = .ok (.putfield 123, 3) := by decide +kernel
theorem dX5_lose_32 : decode cX5_lose 32 = .ok (.iconst 0, 1) := by decide +kernel
theorem dX5_lose_33 : decode cX5_lose 33 = .ok (.istore_n 1, 1) := by decide +kernel
theorem dX5_lose_34 : decode cX5_lose 34 = .ok (.iload_n 1, 1) := by decide +kernel
theorem dX5_lose_35 : decode cX5_lose 35 = .ok (.aload_n 0, 1) := by decide +kernel
theorem dX5_lose_36 : decode cX5_lose 36 = .ok (.getfield 38, 3) := by decide +kernel
theorem dX5_lose_39 : decode cX5_lose 39 = .ok (.arraylength, 1) := by decide +kernel
theorem dX5_lose_40 : decode cX5_lose 40 = .ok (.if_icmp .ge 19, 3) := by decide +kernel
theorem dX5_lose_43 : decode cX5_lose 43 = .ok (.aload_n 0, 1) := by decide +kernel
theorem dX5_lose_44 : decode cX5_lose 44 = .ok (.getfield 38, 3) := by decide +kernel
theorem dX5_lose_47 : decode cX5_lose 47 = .ok (.iload_n 1, 1) := by decide +kernel
theorem dX5_lose_48 : decode cX5_lose 48 = .ok (.aaload, 1) := by decide +kernel
theorem dX5_lose_49 : decode cX5_lose 49 = .ok (.iconst 0, 1) := by decide +kernel
theorem dX5_lose_50 : decode cX5_lose 50 = .ok (.putfield 126, 3) := by decide +kernel
theorem dX5_lose_53 : decode cX5_lose 53 = .ok (.iinc 1 1, 3) := by decide +kernel
theorem dX5_lose_56 : decode cX5_lose 56 = .ok (.goto (-22), 3) := by decide +kernel
theorem dX5_lose_59 : decode cX5_lose 59 = .ok (.return_, 1) := by decide +kernel
set_option maxRecDepth 20000 in
theorem ggX5_ringWaiting_X0_ringIfWaiting : GoodIn wsX5_ringWaiting wsX0_ringIfWaiting := goodIn_r _ [6, 7, 8, 15, 16, 17] (by decide +kernel) (by decide +kernel)
set_option maxRecDepth 20000 in
theorem gX5_ringWaiting_X0_ringIfWaiting : GoodIn wsX5_ringWaiting (wsV RX5 130 RX0 yX0_ringIfWaiting wsX0_ringIfWaiting) := goodIn_app (goodIn_of _ (by decide +kernel)) ggX5_ringWaiting_X0_ringIfWaiting
theorem dX5_ringWaiting_0 : decode cX5_ringWaiting 0 = .ok (.iconst 0, 1) := by decide +kernel
theorem dX5_ringWaiting_1 : decode cX5_ringWaiting 1 = .ok (.istore_n 1, 1) := by decide +kernel
theorem dX5_ringWaiting_2 : decode cX5_ringWaiting 2 = .ok (.iload_n 1, 1) := by decide +kernel
theorem dX5_ringWaiting_3 : decode cX5_ringWaiting 3 = .ok (.aload_n 0, 1) := by decide +kernel
theorem dX5_ringWaiting_4 : decode cX5_ringWaiting 4 = .ok (.getfield 38, 3) := by decide +kernel
theorem dX5_ringWaiting_7 : decode cX5_ringWaiting 7 = .ok (.arraylength, 1) := by decide +kernel
theorem dX5_ringWaiting_8 : decode cX5_ringWaiting 8 = .ok (.if_icmp .ge 18, 3) := by decide +kernel
theorem dX5_ringWaiting_11 : decode cX5_ringWaiting 11 = .ok (.aload_n 0, 1) := by decide +kernel
theorem dX5_ringWaiting_12 : decode cX5_ringWaiting 12 = .ok (.getfield 38, 3) := by decide +kernel
theorem dX5_ringWaiting_15 : decode cX5_ringWaiting 15 = .ok (.iload_n 1, 1) := by decide +kernel
theorem dX5_ringWaiting_16 : decode cX5_ringWaiting 16 = .ok (.aaload, 1) := by decide +kernel
theorem dX5_ringWaiting_17 : decode cX5_ringWaiting 17 = .ok (.invokevirtual 130, 3) := by decide +kernel
theorem dX5_ringWaiting_20 : decode cX5_ringWaiting 20 = .ok (.iinc 1 1, 3) := by decide +kernel
theorem dX5_ringWaiting_23 : decode cX5_ringWaiting 23 = .ok (.goto (-21), 3) := by decide +kernel
theorem dX5_ringWaiting_26 : decode cX5_ringWaiting 26 = .ok (.return_, 1) := by decide +kernel
theorem dX5_eraseRegisters_0 : decode cX5_eraseRegisters 0 = .ok (.iconst 0, 1) := by decide +kernel
theorem dX5_eraseRegisters_1 : decode cX5_eraseRegisters 1 = .ok (.istore_n 1, 1) := by decide +kernel
theorem dX5_eraseRegisters_2 : decode cX5_eraseRegisters 2 = .ok (.iload_n 1, 1) := by decide +kernel
theorem dX5_eraseRegisters_3 : decode cX5_eraseRegisters 3 = .ok (.aload_n 0, 1) := by decide +kernel
theorem dX5_eraseRegisters_4 : decode cX5_eraseRegisters 4 = .ok (.getfield 32, 3) := by decide +kernel
theorem dX5_eraseRegisters_7 : decode cX5_eraseRegisters 7 = .ok (.arraylength, 1) := by decide +kernel
theorem dX5_eraseRegisters_8 : decode cX5_eraseRegisters 8 = .ok (.if_icmp .ge 16, 3) := by decide +kernel
theorem dX5_eraseRegisters_11 : decode cX5_eraseRegisters 11 = .ok (.aload_n 0, 1) := by decide +kernel
theorem dX5_eraseRegisters_12 : decode cX5_eraseRegisters 12 = .ok (.getfield 32, 3) := by decide +kernel
theorem dX5_eraseRegisters_15 : decode cX5_eraseRegisters 15 = .ok (.iload_n 1, 1) := by decide +kernel
theorem dX5_eraseRegisters_16 : decode cX5_eraseRegisters 16 = .ok (.iconst 0, 1) := by decide +kernel
theorem dX5_eraseRegisters_17 : decode cX5_eraseRegisters 17 = .ok (.iastore, 1) := by decide +kernel
theorem dX5_eraseRegisters_18 : decode cX5_eraseRegisters 18 = .ok (.iinc 1 1, 3) := by decide +kernel
theorem dX5_eraseRegisters_21 : decode cX5_eraseRegisters 21 = .ok (.goto (-19), 3) := by decide +kernel
theorem dX5_eraseRegisters_24 : decode cX5_eraseRegisters 24 = .ok (.return_, 1) := by decide +kernel
set_option maxRecDepth 20000 in
theorem ggX5_tamperAt_X6_domain : GoodIn wsX5_tamperAt wsX6_domain := goodIn_r _ [10, 11, 12, 48, 49, 50, 51] (by decide +kernel) (by decide +kernel)
set_option maxRecDepth 20000 in
theorem gX5_tamperAt_X6_domain : GoodIn wsX5_tamperAt (wsV RX5 76 RX6 yX6_domain wsX6_domain) := goodIn_app (goodIn_of _ (by decide +kernel)) ggX5_tamperAt_X6_domain
set_option maxRecDepth 20000 in
theorem ggX5_tamperAt_X5_eraseRegisters : GoodIn wsX5_tamperAt wsX5_eraseRegisters := goodIn_r _ [17, 18, 29, 30, 31, 32, 33, 34] (by decide +kernel) (by decide +kernel)
set_option maxRecDepth 20000 in
theorem gX5_tamperAt_X5_eraseRegisters : GoodIn wsX5_tamperAt (wsV RX5 53 RX5 yX5_eraseRegisters wsX5_eraseRegisters) := goodIn_app (goodIn_of _ (by decide +kernel)) ggX5_tamperAt_X5_eraseRegisters
set_option maxRecDepth 20000 in
theorem ggX5_tamperAt_X7_add : GoodIn wsX5_tamperAt wsX7_add := goodIn_r _ [23, 24, 25, 26, 27, 28, 35, 36, 37, 38, 39, 40] (by decide +kernel) (by decide +kernel)
set_option maxRecDepth 20000 in
theorem gX5_tamperAt_X7_add : GoodIn wsX5_tamperAt (wsV RX5 137 RX7 yX7_add wsX7_add) := goodIn_app (goodIn_of _ (by decide +kernel)) ggX5_tamperAt_X7_add
theorem dX5_tamperAt_0 : decode cX5_tamperAt 0 = .ok (.aload_n 0, 1) := by decide +kernel
theorem dX5_tamperAt_1 : decode cX5_tamperAt 1 = .ok (.getfield 28, 3) := by decide +kernel
theorem dX5_tamperAt_4 : decode cX5_tamperAt 4 = .ok (.getfield 133, 3) := by decide +kernel
theorem dX5_tamperAt_7 : decode cX5_tamperAt 7 = .ok (.iload_n 1, 1) := by decide +kernel
theorem dX5_tamperAt_8 : decode cX5_tamperAt 8 = .ok (.baload, 1) := by decide +kernel
theorem dX5_tamperAt_9 : decode cX5_tamperAt 9 = .ok (.ifCond .eq 14, 3) := by decide +kernel
theorem dX5_tamperAt_12 : decode cX5_tamperAt 12 = .ok (.aload_n 0, 1) := by decide +kernel
theorem dX5_tamperAt_13 : decode cX5_tamperAt 13 = .ok (.getfield 21, 3) := by decide +kernel
theorem dX5_tamperAt_16 : decode cX5_tamperAt 16 = .ok (.invokevirtual 76, 3) := by decide +kernel
theorem dX5_tamperAt_19 : decode cX5_tamperAt 19 = .ok (.iconst 3, 1) := by decide +kernel
theorem dX5_tamperAt_20 : decode cX5_tamperAt 20 = .ok (.if_icmp .ne 4, 3) := by decide +kernel
theorem dX5_tamperAt_23 : decode cX5_tamperAt 23 = .ok (.return_, 1) := by decide +kernel
theorem dX5_tamperAt_24 : decode cX5_tamperAt 24 = .ok (.aload_n 0, 1) := by decide +kernel
theorem dX5_tamperAt_25 : decode cX5_tamperAt 25 = .ok (.invokevirtual 53, 3) := by decide +kernel
theorem dX5_tamperAt_28 : decode cX5_tamperAt 28 = .ok (.aload_n 0, 1) := by decide +kernel
theorem dX5_tamperAt_29 : decode cX5_tamperAt 29 = .ok (.getfield 28, 3) := by decide +kernel
theorem dX5_tamperAt_32 : decode cX5_tamperAt 32 = .ok (.iload_n 1, 1) := by decide +kernel
theorem dX5_tamperAt_33 : decode cX5_tamperAt 33 = .ok (.aload_n 0, 1) := by decide +kernel
theorem dX5_tamperAt_34 : decode cX5_tamperAt 34 = .ok (.getfield 12, 3) := by decide +kernel
theorem dX5_tamperAt_37 : decode cX5_tamperAt 37 = .ok (.getfield 80, 3) := by decide +kernel
theorem dX5_tamperAt_40 : decode cX5_tamperAt 40 = .ok (.aload_n 0, 1) := by decide +kernel
theorem dX5_tamperAt_41 : decode cX5_tamperAt 41 = .ok (.getfield 21, 3) := by decide +kernel
theorem dX5_tamperAt_44 : decode cX5_tamperAt 44 = .ok (.invokevirtual 76, 3) := by decide +kernel
theorem dX5_tamperAt_47 : decode cX5_tamperAt 47 = .ok (.invokevirtual 137, 3) := by decide +kernel
theorem dX5_tamperAt_50 : decode cX5_tamperAt 50 = .ok (.return_, 1) := by decide +kernel
theorem dX5_alarmsSet_0 : decode cX5_alarmsSet 0 = .ok (.iconst 0, 1) := by decide +kernel
theorem dX5_alarmsSet_1 : decode cX5_alarmsSet 1 = .ok (.istore_n 1, 1) := by decide +kernel
theorem dX5_alarmsSet_2 : decode cX5_alarmsSet 2 = .ok (.iconst 0, 1) := by decide +kernel
theorem dX5_alarmsSet_3 : decode cX5_alarmsSet 3 = .ok (.istore_n 2, 1) := by decide +kernel
theorem dX5_alarmsSet_4 : decode cX5_alarmsSet 4 = .ok (.iload_n 2, 1) := by decide +kernel
theorem dX5_alarmsSet_5 : decode cX5_alarmsSet 5 = .ok (.aload_n 0, 1) := by decide +kernel
theorem dX5_alarmsSet_6 : decode cX5_alarmsSet 6 = .ok (.getfield 38, 3) := by decide +kernel
theorem dX5_alarmsSet_9 : decode cX5_alarmsSet 9 = .ok (.arraylength, 1) := by decide +kernel
theorem dX5_alarmsSet_10 : decode cX5_alarmsSet 10 = .ok (.if_icmp .ge 26, 3) := by decide +kernel
theorem dX5_alarmsSet_13 : decode cX5_alarmsSet 13 = .ok (.aload_n 0, 1) := by decide +kernel
theorem dX5_alarmsSet_14 : decode cX5_alarmsSet 14 = .ok (.getfield 38, 3) := by decide +kernel
theorem dX5_alarmsSet_17 : decode cX5_alarmsSet 17 = .ok (.iload_n 2, 1) := by decide +kernel
theorem dX5_alarmsSet_18 : decode cX5_alarmsSet 18 = .ok (.aaload, 1) := by decide +kernel
theorem dX5_alarmsSet_19 : decode cX5_alarmsSet 19 = .ok (.getfield 141, 3) := by decide +kernel
theorem dX5_alarmsSet_22 : decode cX5_alarmsSet 22 = .ok (.ldc 143, 2) := by decide +kernel
theorem dX5_alarmsSet_24 : decode cX5_alarmsSet 24 = .ok (.if_icmp .eq 6, 3) := by decide +kernel
theorem dX5_alarmsSet_27 : decode cX5_alarmsSet 27 = .ok (.iinc 1 1, 3) := by decide +kernel
theorem dX5_alarmsSet_30 : decode cX5_alarmsSet 30 = .ok (.iinc 2 1, 3) := by decide +kernel
theorem dX5_alarmsSet_33 : decode cX5_alarmsSet 33 = .ok (.goto (-29), 3) := by decide +kernel
theorem dX5_alarmsSet_36 : decode cX5_alarmsSet 36 = .ok (.iload_n 1, 1) := by decide +kernel
theorem dX5_alarmsSet_37 : decode cX5_alarmsSet 37 = .ok (.ireturn, 1) := by decide +kernel
set_option maxRecDepth 20000 in
theorem ggX5_alarmsWaiting_X0_tell : GoodIn wsX5_alarmsWaiting wsX0_tell := goodIn_r _ [6, 7, 8, 9, 16, 17, 18] (by decide +kernel) (by decide +kernel)
set_option maxRecDepth 20000 in
theorem gX5_alarmsWaiting_X0_tell : GoodIn wsX5_alarmsWaiting (wsV RX5 144 RX0 yX0_tell wsX0_tell) := goodIn_app (goodIn_of _ (by decide +kernel)) ggX5_alarmsWaiting_X0_tell
theorem dX5_alarmsWaiting_0 : decode cX5_alarmsWaiting 0 = .ok (.iconst 0, 1) := by decide +kernel
theorem dX5_alarmsWaiting_1 : decode cX5_alarmsWaiting 1 = .ok (.istore_n 1, 1) := by decide +kernel
theorem dX5_alarmsWaiting_2 : decode cX5_alarmsWaiting 2 = .ok (.iconst 0, 1) := by decide +kernel
theorem dX5_alarmsWaiting_3 : decode cX5_alarmsWaiting 3 = .ok (.istore_n 2, 1) := by decide +kernel
theorem dX5_alarmsWaiting_4 : decode cX5_alarmsWaiting 4 = .ok (.iload_n 2, 1) := by decide +kernel
theorem dX5_alarmsWaiting_5 : decode cX5_alarmsWaiting 5 = .ok (.aload_n 0, 1) := by decide +kernel
theorem dX5_alarmsWaiting_6 : decode cX5_alarmsWaiting 6 = .ok (.getfield 38, 3) := by decide +kernel
theorem dX5_alarmsWaiting_9 : decode cX5_alarmsWaiting 9 = .ok (.arraylength, 1) := by decide +kernel
theorem dX5_alarmsWaiting_10 : decode cX5_alarmsWaiting 10 = .ok (.if_icmp .ge 22, 3) := by decide +kernel
theorem dX5_alarmsWaiting_13 : decode cX5_alarmsWaiting 13 = .ok (.iload_n 1, 1) := by decide +kernel
theorem dX5_alarmsWaiting_14 : decode cX5_alarmsWaiting 14 = .ok (.aload_n 0, 1) := by decide +kernel
theorem dX5_alarmsWaiting_15 : decode cX5_alarmsWaiting 15 = .ok (.getfield 38, 3) := by decide +kernel
theorem dX5_alarmsWaiting_18 : decode cX5_alarmsWaiting 18 = .ok (.iload_n 2, 1) := by decide +kernel
theorem dX5_alarmsWaiting_19 : decode cX5_alarmsWaiting 19 = .ok (.aaload, 1) := by decide +kernel
theorem dX5_alarmsWaiting_20 : decode cX5_alarmsWaiting 20 = .ok (.iconst 1, 1) := by decide +kernel
theorem dX5_alarmsWaiting_21 : decode cX5_alarmsWaiting 21 = .ok (.invokevirtual 144, 3) := by decide +kernel
theorem dX5_alarmsWaiting_24 : decode cX5_alarmsWaiting 24 = .ok (.iadd, 1) := by decide +kernel
theorem dX5_alarmsWaiting_25 : decode cX5_alarmsWaiting 25 = .ok (.istore_n 1, 1) := by decide +kernel
theorem dX5_alarmsWaiting_26 : decode cX5_alarmsWaiting 26 = .ok (.iinc 2 1, 3) := by decide +kernel
theorem dX5_alarmsWaiting_29 : decode cX5_alarmsWaiting 29 = .ok (.goto (-25), 3) := by decide +kernel
theorem dX5_alarmsWaiting_32 : decode cX5_alarmsWaiting 32 = .ok (.iload_n 1, 1) := by decide +kernel
theorem dX5_alarmsWaiting_33 : decode cX5_alarmsWaiting 33 = .ok (.ireturn, 1) := by decide +kernel
theorem dX5_rings_0 : decode cX5_rings 0 = .ok (.iconst 0, 1) := by decide +kernel
theorem dX5_rings_1 : decode cX5_rings 1 = .ok (.istore_n 1, 1) := by decide +kernel
theorem dX5_rings_2 : decode cX5_rings 2 = .ok (.iconst 0, 1) := by decide +kernel
theorem dX5_rings_3 : decode cX5_rings 3 = .ok (.istore_n 2, 1) := by decide +kernel
theorem dX5_rings_4 : decode cX5_rings 4 = .ok (.iload_n 2, 1) := by decide +kernel
theorem dX5_rings_5 : decode cX5_rings 5 = .ok (.aload_n 0, 1) := by decide +kernel
theorem dX5_rings_6 : decode cX5_rings 6 = .ok (.getfield 38, 3) := by decide +kernel
theorem dX5_rings_9 : decode cX5_rings 9 = .ok (.arraylength, 1) := by decide +kernel
theorem dX5_rings_10 : decode cX5_rings 10 = .ok (.if_icmp .ge 21, 3) := by decide +kernel
theorem dX5_rings_13 : decode cX5_rings 13 = .ok (.iload_n 1, 1) := by decide +kernel
theorem dX5_rings_14 : decode cX5_rings 14 = .ok (.aload_n 0, 1) := by decide +kernel
theorem dX5_rings_15 : decode cX5_rings 15 = .ok (.getfield 38, 3) := by decide +kernel
theorem dX5_rings_18 : decode cX5_rings 18 = .ok (.iload_n 2, 1) := by decide +kernel
theorem dX5_rings_19 : decode cX5_rings 19 = .ok (.aaload, 1) := by decide +kernel
theorem dX5_rings_20 : decode cX5_rings 20 = .ok (.getfield 148, 3) := by decide +kernel
theorem dX5_rings_23 : decode cX5_rings 23 = .ok (.iadd, 1) := by decide +kernel
theorem dX5_rings_24 : decode cX5_rings 24 = .ok (.istore_n 1, 1) := by decide +kernel
theorem dX5_rings_25 : decode cX5_rings 25 = .ok (.iinc 2 1, 3) := by decide +kernel
theorem dX5_rings_28 : decode cX5_rings 28 = .ok (.goto (-24), 3) := by decide +kernel
theorem dX5_rings_31 : decode cX5_rings 31 = .ok (.iload_n 1, 1) := by decide +kernel
theorem dX5_rings_32 : decode cX5_rings 32 = .ok (.ireturn, 1) := by decide +kernel
set_option maxRecDepth 20000 in
theorem ggX5_isDeadWithin_X6_domain : GoodIn wsX5_isDeadWithin wsX6_domain := goodIn_r _ [6, 7, 8, 21, 22, 23, 24] (by decide +kernel) (by decide +kernel)
set_option maxRecDepth 20000 in
theorem gX5_isDeadWithin_X6_domain : GoodIn wsX5_isDeadWithin (wsV RX5 76 RX6 yX6_domain wsX6_domain) := goodIn_app (goodIn_of _ (by decide +kernel)) ggX5_isDeadWithin_X6_domain
set_option maxRecDepth 20000 in
theorem ggX5_isDeadWithin_X6_minutesLeft : GoodIn wsX5_isDeadWithin wsX6_minutesLeft := goodIn_r _ [12, 13, 8, 14, 3, 4, 5, 6, 7, 21, 22, 23, 24] (by decide +kernel) (by decide +kernel)
set_option maxRecDepth 20000 in
theorem gX5_isDeadWithin_X6_minutesLeft : GoodIn wsX5_isDeadWithin (wsV RX5 151 RX6 yX6_minutesLeft wsX6_minutesLeft) := goodIn_app (goodIn_of _ (by decide +kernel)) ggX5_isDeadWithin_X6_minutesLeft
theorem dX5_isDeadWithin_0 : decode cX5_isDeadWithin 0 = .ok (.aload_n 0, 1) := by decide +kernel
theorem dX5_isDeadWithin_1 : decode cX5_isDeadWithin 1 = .ok (.getfield 21, 3) := by decide +kernel
theorem dX5_isDeadWithin_4 : decode cX5_isDeadWithin 4 = .ok (.invokevirtual 76, 3) := by decide +kernel
theorem dX5_isDeadWithin_7 : decode cX5_isDeadWithin 7 = .ok (.ifCond .eq 18, 3) := by decide +kernel
theorem dX5_isDeadWithin_10 : decode cX5_isDeadWithin 10 = .ok (.aload_n 0, 1) := by decide +kernel
theorem dX5_isDeadWithin_11 : decode cX5_isDeadWithin 11 = .ok (.getfield 21, 3) := by decide +kernel
theorem dX5_isDeadWithin_14 : decode cX5_isDeadWithin 14 = .ok (.invokevirtual 151, 3) := by decide +kernel
theorem dX5_isDeadWithin_17 : decode cX5_isDeadWithin 17 = .ok (.iload_n 1, 1) := by decide +kernel
theorem dX5_isDeadWithin_18 : decode cX5_isDeadWithin 18 = .ok (.if_icmp .gt 7, 3) := by decide +kernel
theorem dX5_isDeadWithin_21 : decode cX5_isDeadWithin 21 = .ok (.iconst 1, 1) := by decide +kernel
theorem dX5_isDeadWithin_22 : decode cX5_isDeadWithin 22 = .ok (.goto 4, 3) := by decide +kernel
theorem dX5_isDeadWithin_25 : decode cX5_isDeadWithin 25 = .ok (.iconst 0, 1) := by decide +kernel
theorem dX5_isDeadWithin_26 : decode cX5_isDeadWithin 26 = .ok (.ireturn, 1) := by decide +kernel
set_option maxRecDepth 20000 in
theorem ggX5_nearer_X5_distanceAfter : GoodIn wsX5_nearer wsX5_distanceAfter := goodIn_r _ [5, 6, 7, 8, 9, 10, 11, 12, 13, 4, 14, 15, 16, 17, 18, 19, 20, 21, 22, 23, 24, 25, 26, 27, 28, 29, 30, 31, 32, 33, 34, 35, 36, 37] (by decide +kernel) (by decide +kernel)
set_option maxRecDepth 20000 in
theorem gX5_nearer_X5_distanceAfter : GoodIn wsX5_nearer (wsV RX5 154 RX5 yX5_distanceAfter wsX5_distanceAfter) := goodIn_app (goodIn_of _ (by decide +kernel)) ggX5_nearer_X5_distanceAfter
theorem dX5_nearer_0 : decode cX5_nearer 0 = .ok (.aload_n 0, 1) := by decide +kernel
theorem dX5_nearer_1 : decode cX5_nearer 1 = .ok (.iload_n 1, 1) := by decide +kernel
theorem dX5_nearer_2 : decode cX5_nearer 2 = .ok (.iload_n 3, 1) := by decide +kernel
theorem dX5_nearer_3 : decode cX5_nearer 3 = .ok (.invokevirtual 154, 3) := by decide +kernel
theorem dX5_nearer_6 : decode cX5_nearer 6 = .ok (.aload_n 0, 1) := by decide +kernel
theorem dX5_nearer_7 : decode cX5_nearer 7 = .ok (.iload_n 1, 1) := by decide +kernel
theorem dX5_nearer_8 : decode cX5_nearer 8 = .ok (.iload_n 2, 1) := by decide +kernel
theorem dX5_nearer_9 : decode cX5_nearer 9 = .ok (.invokevirtual 154, 3) := by decide +kernel
theorem dX5_nearer_12 : decode cX5_nearer 12 = .ok (.if_icmp .ge 7, 3) := by decide +kernel
theorem dX5_nearer_15 : decode cX5_nearer 15 = .ok (.iload_n 3, 1) := by decide +kernel
theorem dX5_nearer_16 : decode cX5_nearer 16 = .ok (.goto 4, 3) := by decide +kernel
theorem dX5_nearer_19 : decode cX5_nearer 19 = .ok (.iload_n 2, 1) := by decide +kernel
theorem dX5_nearer_20 : decode cX5_nearer 20 = .ok (.ireturn, 1) := by decide +kernel
set_option maxRecDepth 20000 in
theorem ggX5_distanceAfter_X5_offset : GoodIn wsX5_distanceAfter wsX5_offset := goodIn_r _ [10, 1, 11, 12, 21, 22, 23, 24, 25, 26, 27, 28, 29, 30, 31, 32, 33] (by decide +kernel) (by decide +kernel)

set_option maxRecDepth 20000 in
theorem gX1_reset_X1_lose : GoodIn wsX1_reset (wsV RX1 9 RX1 yX1_lose wsX1_lose) := goodIn_app (goodIn_of _ (by decide +kernel)) ggX1_reset_X1_lose
theorem dX1_reset_0 : decode cX1_reset 0 = .ok (.aload_n 0, 1) := by decide +kernel
theorem dX1_reset_1 : decode cX1_reset 1 = .ok (.invokevirtual 9, 3) := by decide +kernel
theorem dX1_reset_4 : decode cX1_reset 4 = .ok (.aload_n 0, 1) := by decide +kernel
theorem dX1_reset_5 : decode cX1_reset 5 = .ok (.bipush 100, 2) := by decide +kernel
theorem dX1_reset_7 : decode cX1_reset 7 = .ok (.putfield 14, 3) := by decide +kernel
theorem dX1_reset_10 : decode cX1_reset 10 = .ok (.aload_n 0, 1) := by decide +kernel
theorem dX1_reset_11 : decode cX1_reset 11 = .ok (.iconst 0, 1) := by decide +kernel
theorem dX1_reset_12 : decode cX1_reset 12 = .ok (.putfield 18, 3) := by decide +kernel
theorem dX1_reset_15 : decode cX1_reset 15 = .ok (.aload_n 0, 1) := by decide +kernel
theorem dX1_reset_16 : decode cX1_reset 16 = .ok (.lconst 0, 1) := by decide +kernel
theorem dX1_reset_17 : decode cX1_reset 17 = .ok (.putfield 21, 3) := by decide +kernel
theorem dX1_reset_20 : decode cX1_reset 20 = .ok (.aload_n 0, 1) := by decide +kernel
theorem dX1_reset_21 : decode cX1_reset 21 = .ok (.lconst 0, 1) := by decide +kernel
theorem dX1_reset_22 : decode cX1_reset 22 = .ok (.putfield 25, 3) := by decide +kernel
theorem dX1_reset_25 : decode cX1_reset 25 = .ok (.return_, 1) := by decide +kernel
theorem dX1_copyFrom_0 : decode cX1_copyFrom 0 = .ok (.aload_n 0, 1) := by decide +kernel
theorem dX1_copyFrom_1 : decode cX1_copyFrom 1 = .ok (.aload_n 1, 1) := by decide +kernel
theorem dX1_copyFrom_2 : decode cX1_copyFrom 2 = .ok (.getfield 28, 3) := by decide +kernel
theorem dX1_copyFrom_5 : decode cX1_copyFrom 5 = .ok (.putfield 28, 3) := by decide +kernel
theorem dX1_copyFrom_8 : decode cX1_copyFrom 8 = .ok (.aload_n 0, 1) := by decide +kernel
theorem dX1_copyFrom_9 : decode cX1_copyFrom 9 = .ok (.aload_n 1, 1) := by decide +kernel
theorem dX1_copyFrom_10 : decode cX1_copyFrom 10 = .ok (.getfield 31, 3) := by decide +kernel
theorem dX1_copyFrom_13 : decode cX1_copyFrom 13 = .ok (.putfield 31, 3) := by decide +kernel
theorem dX1_copyFrom_16 : decode cX1_copyFrom 16 = .ok (.aload_n 0, 1) := by decide +kernel
theorem dX1_copyFrom_17 : decode cX1_copyFrom 17 = .ok (.aload_n 1, 1) := by decide +kernel
theorem dX1_copyFrom_18 : decode cX1_copyFrom 18 = .ok (.getfield 34, 3) := by decide +kernel
theorem dX1_copyFrom_21 : decode cX1_copyFrom 21 = .ok (.putfield 34, 3) := by decide +kernel
theorem dX1_copyFrom_24 : decode cX1_copyFrom 24 = .ok (.aload_n 0, 1) := by decide +kernel
theorem dX1_copyFrom_25 : decode cX1_copyFrom 25 = .ok (.aload_n 1, 1) := by decide +kernel
theorem dX1_copyFrom_26 : decode cX1_copyFrom 26 = .ok (.getfield 14, 3) := by decide +kernel
theorem dX1_copyFrom_29 : decode cX1_copyFrom 29 = .ok (.putfield 14, 3) := by decide +kernel
theorem dX1_copyFrom_32 : decode cX1_copyFrom 32 = .ok (.aload_n 0, 1) := by decide +kernel
theorem dX1_copyFrom_33 : decode cX1_copyFrom 33 = .ok (.aload_n 1, 1) := by decide +kernel
theorem dX1_copyFrom_34 : decode cX1_copyFrom 34 = .ok (.getfield 18, 3) := by decide +kernel
theorem dX1_copyFrom_37 : decode cX1_copyFrom 37 = .ok (.putfield 18, 3) := by decide +kernel
theorem dX1_copyFrom_40 : decode cX1_copyFrom 40 = .ok (.aload_n 0, 1) := by decide +kernel
theorem dX1_copyFrom_41 : decode cX1_copyFrom 41 = .ok (.aload_n 1, 1) := by decide +kernel
theorem dX1_copyFrom_42 : decode cX1_copyFrom 42 = .ok (.getfield 21, 3) := by decide +kernel
theorem dX1_copyFrom_45 : decode cX1_copyFrom 45 = .ok (.putfield 21, 3) := by decide +kernel
theorem dX1_copyFrom_48 : decode cX1_copyFrom 48 = .ok (.aload_n 0, 1) := by decide +kernel
theorem dX1_copyFrom_49 : decode cX1_copyFrom 49 = .ok (.aload_n 1, 1) := by decide +kernel
theorem dX1_copyFrom_50 : decode cX1_copyFrom 50 = .ok (.getfield 25, 3) := by decide +kernel
theorem dX1_copyFrom_53 : decode cX1_copyFrom 53 = .ok (.putfield 25, 3) := by decide +kernel
theorem dX1_copyFrom_56 : decode cX1_copyFrom 56 = .ok (.return_, 1) := by decide +kernel
theorem dX1_lose_0 : decode cX1_lose 0 = .ok (.aload_n 0, 1) := by decide +kernel
theorem dX1_lose_1 : decode cX1_lose 1 = .ok (.iconst 0, 1) := by decide +kernel
theorem dX1_lose_2 : decode cX1_lose 2 = .ok (.putfield 28, 3) := by decide +kernel
theorem dX1_lose_5 : decode cX1_lose 5 = .ok (.aload_n 0, 1) := by decide +kernel
theorem dX1_lose_6 : decode cX1_lose 6 = .ok (.iconst 0, 1) := by decide +kernel
theorem dX1_lose_7 : decode cX1_lose 7 = .ok (.putfield 31, 3) := by decide +kernel
theorem dX1_lose_10 : decode cX1_lose 10 = .ok (.aload_n 0, 1) := by decide +kernel
theorem dX1_lose_11 : decode cX1_lose 11 = .ok (.iconst 0, 1) := by decide +kernel
theorem dX1_lose_12 : decode cX1_lose 12 = .ok (.putfield 34, 3) := by decide +kernel
theorem dX1_lose_15 : decode cX1_lose 15 = .ok (.return_, 1) := by decide +kernel
theorem dX1_setTo_0 : decode cX1_setTo 0 = .ok (.aload_n 0, 1) := by decide +kernel
theorem dX1_setTo_1 : decode cX1_setTo 1 = .ok (.iload_n 1, 1) := by decide +kernel
theorem dX1_setTo_2 : decode cX1_setTo 2 = .ok (.putfield 28, 3) := by decide +kernel
theorem dX1_setTo_5 : decode cX1_setTo 5 = .ok (.aload_n 0, 1) := by decide +kernel
theorem dX1_setTo_6 : decode cX1_setTo 6 = .ok (.iconst 0, 1) := by decide +kernel
theorem dX1_setTo_7 : decode cX1_setTo 7 = .ok (.putfield 31, 3) := by decide +kernel
theorem dX1_setTo_10 : decode cX1_setTo 10 = .ok (.aload_n 0, 1) := by decide +kernel
theorem dX1_setTo_11 : decode cX1_setTo 11 = .ok (.iconst 1, 1) := by decide +kernel
theorem dX1_setTo_12 : decode cX1_setTo 12 = .ok (.putfield 34, 3) := by decide +kernel
theorem dX1_setTo_15 : decode cX1_setTo 15 = .ok (.return_, 1) := by decide +kernel
theorem dX1_minute_0 : decode cX1_minute 0 = .ok (.aload_n 0, 1) := by decide +kernel
theorem dX1_minute_1 : decode cX1_minute 1 = .ok (.getfield 28, 3) := by decide +kernel
theorem dX1_minute_4 : decode cX1_minute 4 = .ok (.bipush 60, 2) := by decide +kernel
theorem dX1_minute_6 : decode cX1_minute 6 = .ok (.idiv, 1) := by decide +kernel
theorem dX1_minute_7 : decode cX1_minute 7 = .ok (.ireturn, 1) := by decide +kernel
theorem dX1_goOn_0 : decode cX1_goOn 0 = .ok (.aload_n 0, 1) := by decide +kernel
theorem dX1_goOn_1 : decode cX1_goOn 1 = .ok (.getfield 14, 3) := by decide +kernel
theorem dX1_goOn_4 : decode cX1_goOn 4 = .ok (.aload_n 0, 1) := by decide +kernel
theorem dX1_goOn_5 : decode cX1_goOn 5 = .ok (.getfield 18, 3) := by decide +kernel
theorem dX1_goOn_8 : decode cX1_goOn 8 = .ok (.isub, 1) := by decide +kernel
theorem dX1_goOn_9 : decode cX1_goOn 9 = .ok (.bipush 60, 2) := by decide +kernel
theorem dX1_goOn_11 : decode cX1_goOn 11 = .ok (.imul, 1) := by decide +kernel
theorem dX1_goOn_12 : decode cX1_goOn 12 = .ok (.istore_n 1, 1) := by decide +kernel
theorem dX1_goOn_13 : decode cX1_goOn 13 = .ok (.aload_n 0, 1) := by decide +kernel
theorem dX1_goOn_14 : decode cX1_goOn 14 = .ok (.dup, 1) := by decide +kernel
theorem dX1_goOn_15 : decode cX1_goOn 15 = .ok (.getfield 28, 3) := by decide +kernel
theorem dX1_goOn_18 : decode cX1_goOn 18 = .ok (.bipush 60, 2) := by decide +kernel
theorem dX1_goOn_20 : decode cX1_goOn 20 = .ok (.iadd, 1) := by decide +kernel
theorem dX1_goOn_21 : decode cX1_goOn 21 = .ok (.putfield 28, 3) := by decide +kernel
theorem dX1_goOn_24 : decode cX1_goOn 24 = .ok (.aload_n 0, 1) := by decide +kernel
theorem dX1_goOn_25 : decode cX1_goOn 25 = .ok (.dup, 1) := by decide +kernel
theorem dX1_goOn_26 : decode cX1_goOn 26 = .ok (.getfield 31, 3) := by decide +kernel
theorem dX1_goOn_29 : decode cX1_goOn 29 = .ok (.iload_n 1, 1) := by decide +kernel
theorem dX1_goOn_30 : decode cX1_goOn 30 = .ok (.iadd, 1) := by decide +kernel
theorem dX1_goOn_31 : decode cX1_goOn 31 = .ok (.putfield 31, 3) := by decide +kernel
theorem dX1_goOn_34 : decode cX1_goOn 34 = .ok (.aload_n 0, 1) := by decide +kernel
theorem dX1_goOn_35 : decode cX1_goOn 35 = .ok (.dup, 1) := by decide +kernel
theorem dX1_goOn_36 : decode cX1_goOn 36 = .ok (.getfield 21, 3) := by decide +kernel
theorem dX1_goOn_39 : decode cX1_goOn 39 = .ok (.aload_n 0, 1) := by decide +kernel
theorem dX1_goOn_40 : decode cX1_goOn 40 = .ok (.getfield 18, 3) := by decide +kernel
theorem dX1_goOn_43 : decode cX1_goOn 43 = .ok (.bipush 60, 2) := by decide +kernel
theorem dX1_goOn_45 : decode cX1_goOn 45 = .ok (.imul, 1) := by decide +kernel
theorem dX1_goOn_46 : decode cX1_goOn 46 = .ok (.i2l, 1) := by decide +kernel
theorem dX1_goOn_47 : decode cX1_goOn 47 = .ok (.ladd, 1) := by decide +kernel
theorem dX1_goOn_48 : decode cX1_goOn 48 = .ok (.putfield 21, 3) := by decide +kernel
theorem dX1_goOn_51 : decode cX1_goOn 51 = .ok (.aload_n 0, 1) := by decide +kernel
theorem dX1_goOn_52 : decode cX1_goOn 52 = .ok (.dup, 1) := by decide +kernel
theorem dX1_goOn_53 : decode cX1_goOn 53 = .ok (.getfield 25, 3) := by decide +kernel
theorem dX1_goOn_56 : decode cX1_goOn 56 = .ok (.iload_n 1, 1) := by decide +kernel
theorem dX1_goOn_57 : decode cX1_goOn 57 = .ok (.i2l, 1) := by decide +kernel
theorem dX1_goOn_58 : decode cX1_goOn 58 = .ok (.ladd, 1) := by decide +kernel
theorem dX1_goOn_59 : decode cX1_goOn 59 = .ok (.putfield 25, 3) := by decide +kernel
theorem dX1_goOn_62 : decode cX1_goOn 62 = .ok (.aload_n 0, 1) := by decide +kernel
theorem dX1_goOn_63 : decode cX1_goOn 63 = .ok (.getfield 31, 3) := by decide +kernel
theorem dX1_goOn_66 : decode cX1_goOn 66 = .ok (.ldc 38, 2) := by decide +kernel
theorem dX1_goOn_68 : decode cX1_goOn 68 = .ok (.idiv, 1) := by decide +kernel
theorem dX1_goOn_69 : decode cX1_goOn 69 = .ok (.istore_n 2, 1) := by decide +kernel
theorem dX1_goOn_70 : decode cX1_goOn 70 = .ok (.aload_n 0, 1) := by decide +kernel
theorem dX1_goOn_71 : decode cX1_goOn 71 = .ok (.dup, 1) := by decide +kernel
theorem dX1_goOn_72 : decode cX1_goOn 72 = .ok (.getfield 28, 3) := by decide +kernel
theorem dX1_goOn_75 : decode cX1_goOn 75 = .ok (.iload_n 2, 1) := by decide +kernel
theorem dX1_goOn_76 : decode cX1_goOn 76 = .ok (.iadd, 1) := by decide +kernel
theorem dX1_goOn_77 : decode cX1_goOn 77 = .ok (.putfield 28, 3) := by decide +kernel
theorem dX1_goOn_80 : decode cX1_goOn 80 = .ok (.aload_n 0, 1) := by decide +kernel
theorem dX1_goOn_81 : decode cX1_goOn 81 = .ok (.dup, 1) := by decide +kernel
theorem dX1_goOn_82 : decode cX1_goOn 82 = .ok (.getfield 31, 3) := by decide +kernel
theorem dX1_goOn_85 : decode cX1_goOn 85 = .ok (.iload_n 2, 1) := by decide +kernel
theorem dX1_goOn_86 : decode cX1_goOn 86 = .ok (.ldc 38, 2) := by decide +kernel
theorem dX1_goOn_88 : decode cX1_goOn 88 = .ok (.imul, 1) := by decide +kernel
theorem dX1_goOn_89 : decode cX1_goOn 89 = .ok (.isub, 1) := by decide +kernel
theorem dX1_goOn_90 : decode cX1_goOn 90 = .ok (.putfield 31, 3) := by decide +kernel
theorem dX1_goOn_93 : decode cX1_goOn 93 = .ok (.return_, 1) := by decide +kernel
theorem dX1_winsWith_0 : decode cX1_winsWith 0 = .ok (.aload_n 0, 1) := by decide +kernel
theorem dX1_winsWith_1 : decode cX1_winsWith 1 = .ok (.getfield 31, 3) := by decide +kernel
theorem dX1_winsWith_4 : decode cX1_winsWith 4 = .ok (.iload_n 1, 1) := by decide +kernel
theorem dX1_winsWith_5 : decode cX1_winsWith 5 = .ok (.aload_n 0, 1) := by decide +kernel
theorem dX1_winsWith_6 : decode cX1_winsWith 6 = .ok (.getfield 14, 3) := by decide +kernel
theorem dX1_winsWith_9 : decode cX1_winsWith 9 = .ok (.iload_n 2, 1) := by decide +kernel
theorem dX1_winsWith_10 : decode cX1_winsWith 10 = .ok (.isub, 1) := by decide +kernel
theorem dX1_winsWith_11 : decode cX1_winsWith 11 = .ok (.imul, 1) := by decide +kernel
theorem dX1_winsWith_12 : decode cX1_winsWith 12 = .ok (.bipush 60, 2) := by decide +kernel
theorem dX1_winsWith_14 : decode cX1_winsWith 14 = .ok (.imul, 1) := by decide +kernel
theorem dX1_winsWith_15 : decode cX1_winsWith 15 = .ok (.iadd, 1) := by decide +kernel
theorem dX1_winsWith_16 : decode cX1_winsWith 16 = .ok (.ldc 38, 2) := by decide +kernel
theorem dX1_winsWith_18 : decode cX1_winsWith 18 = .ok (.idiv, 1) := by decide +kernel
theorem dX1_winsWith_19 : decode cX1_winsWith 19 = .ok (.ireturn, 1) := by decide +kernel
set_option maxRecDepth 20000 in
theorem ggX2_init_X5_init : GoodIn wsX2_init wsX5_init := goodIn_r _ [10, 11, 2, 3, 12, 13, 14, 15, 16, 17, 18, 19, 20, 21, 22, 23, 24, 25, 26, 27, 28, 29, 30, 31, 32, 33, 34, 35, 36, 37, 38, 39, 40, 41, 42, 43, 44, 45, 46, 47, 48, 49, 50, 7, 51, 52, 53, 54, 55, 56, 57, 58, 59, 60, 61, 62, 63, 64, 65, 66, 67, 68, 69, 70, 71, 72, 73, 74, 75, 76, 77, 78, 79, 80, 81, 82, 83, 84, 85, 86, 87, 88, 89, 90, 91, 92, 93, 94, 95, 96, 105, 106, 107, 108, 109, 110, 111, 99, 100, 101, 102, 103, 104, 112, 113, 114, 115, 116, 117, 118, 119, 120, 121, 122, 123, 124] (by decide +kernel) (by decide +kernel)
set_option maxRecDepth 20000 in
theorem gX2_init_X5_init : GoodIn wsX2_init (wsX5_init) := ggX2_init_X5_init
theorem dX2_init_0 : decode cX2_init 0 = .ok (.aload_n 0, 1) := by decide +kernel
theorem dX2_init_1 : decode cX2_init 1 = .ok (.invokespecial 3, 3) := by decide +kernel
theorem dX2_init_4 : decode cX2_init 4 = .ok (.aload_n 0, 1) := by decide +kernel
theorem dX2_init_5 : decode cX2_init 5 = .ok (.bipush 14, 2) := by decide +kernel
theorem dX2_init_7 : decode cX2_init 7 = .ok (.anewarray 9, 3) := by decide +kernel
theorem dX2_init_10 : decode cX2_init 10 = .ok (.putfield 11, 3) := by decide +kernel
theorem dX2_init_13 : decode cX2_init 13 = .ok (.iconst 0, 1) := by decide +kernel
theorem dX2_init_14 : decode cX2_init 14 = .ok (.istore_n 1, 1) := by decide +kernel
theorem dX2_init_15 : decode cX2_init 15 = .ok (.iload_n 1, 1) := by decide +kernel
theorem dX2_init_16 : decode cX2_init 16 = .ok (.aload_n 0, 1) := by decide +kernel
theorem dX2_init_17 : decode cX2_init 17 = .ok (.getfield 11, 3) := by decide +kernel
theorem dX2_init_20 : decode cX2_init 20 = .ok (.arraylength, 1) := by decide +kernel
theorem dX2_init_21 : decode cX2_init 21 = .ok (.if_icmp .ge 22, 3) := by decide +kernel
theorem dX2_init_24 : decode cX2_init 24 = .ok (.aload_n 0, 1) := by decide +kernel
theorem dX2_init_25 : decode cX2_init 25 = .ok (.getfield 11, 3) := by decide +kernel
theorem dX2_init_28 : decode cX2_init 28 = .ok (.iload_n 1, 1) := by decide +kernel
theorem dX2_init_29 : decode cX2_init 29 = .ok (.new 9, 3) := by decide +kernel
theorem dX2_init_32 : decode cX2_init 32 = .ok (.dup, 1) := by decide +kernel
theorem dX2_init_33 : decode cX2_init 33 = .ok (.invokespecial 17, 3) := by decide +kernel
theorem dX2_init_36 : decode cX2_init 36 = .ok (.aastore, 1) := by decide +kernel
theorem dX2_init_37 : decode cX2_init 37 = .ok (.iinc 1 1, 3) := by decide +kernel
theorem dX2_init_40 : decode cX2_init 40 = .ok (.goto (-25), 3) := by decide +kernel
theorem dX2_init_43 : decode cX2_init 43 = .ok (.return_, 1) := by decide +kernel
theorem dX2_forget_0 : decode cX2_forget 0 = .ok (.aload_n 0, 1) := by decide +kernel
theorem dX2_forget_1 : decode cX2_forget 1 = .ok (.iconst 0, 1) := by decide +kernel
theorem dX2_forget_2 : decode cX2_forget 2 = .ok (.putfield 18, 3) := by decide +kernel
theorem dX2_forget_5 : decode cX2_forget 5 = .ok (.return_, 1) := by decide +kernel
set_option maxRecDepth 20000 in
theorem ggX2_remember_X2_forgetOldest : GoodIn wsX2_remember wsX2_forgetOldest := goodIn_r _ [7, 2, 1, 65, 66] (by decide +kernel) (by decide +kernel)
set_option maxRecDepth 20000 in
theorem gX2_remember_X2_forgetOldest : GoodIn wsX2_remember (wsV RX2 22 RX2 yX2_forgetOldest wsX2_forgetOldest) := goodIn_app (goodIn_of _ (by decide +kernel)) ggX2_remember_X2_forgetOldest
set_option maxRecDepth 20000 in
theorem ggX2_remember_X5_copyFrom : GoodIn wsX2_remember wsX5_copyFrom := goodIn_r _ [12, 13, 14, 15, 16, 17, 18, 19, 20, 21, 22, 23, 24, 25, 26, 27, 28, 29, 30, 31, 32, 33, 34, 35, 36, 37, 38, 39, 40, 41, 42, 43, 44, 45, 46, 47, 48, 49, 50, 51, 52, 53, 54, 55, 56, 57, 58, 59, 60, 61, 62, 63, 64, 67, 68, 69, 70, 71, 72, 73, 74, 75, 76, 77, 78, 79, 80, 81, 82, 83, 84, 85, 86, 87, 88, 89, 90, 91, 92] (by decide +kernel) (by decide +kernel)
set_option maxRecDepth 20000 in
theorem gX2_remember_X5_copyFrom : GoodIn wsX2_remember (wsV RX2 25 RX5 yX5_copyFrom wsX5_copyFrom) := goodIn_app (goodIn_of _ (by decide +kernel)) ggX2_remember_X5_copyFrom
theorem dX2_remember_0 : decode cX2_remember 0 = .ok (.aload_n 0, 1) := by decide +kernel
theorem dX2_remember_1 : decode cX2_remember 1 = .ok (.getfield 18, 3) := by decide +kernel
theorem dX2_remember_4 : decode cX2_remember 4 = .ok (.bipush 14, 2) := by decide +kernel
theorem dX2_remember_6 : decode cX2_remember 6 = .ok (.if_icmp .lt 7, 3) := by decide +kernel
theorem dX2_remember_9 : decode cX2_remember 9 = .ok (.aload_n 0, 1) := by decide +kernel
theorem dX2_remember_10 : decode cX2_remember 10 = .ok (.invokevirtual 22, 3) := by decide +kernel
theorem dX2_remember_13 : decode cX2_remember 13 = .ok (.aload_n 0, 1) := by decide +kernel
theorem dX2_remember_14 : decode cX2_remember 14 = .ok (.getfield 11, 3) := by decide +kernel
theorem dX2_remember_17 : decode cX2_remember 17 = .ok (.aload_n 0, 1) := by decide +kernel
theorem dX2_remember_18 : decode cX2_remember 18 = .ok (.getfield 18, 3) := by decide +kernel
theorem dX2_remember_21 : decode cX2_remember 21 = .ok (.aaload, 1) := by decide +kernel
theorem dX2_remember_22 : decode cX2_remember 22 = .ok (.aload_n 1, 1) := by decide +kernel
theorem dX2_remember_23 : decode cX2_remember 23 = .ok (.invokevirtual 25, 3) := by decide +kernel
theorem dX2_remember_26 : decode cX2_remember 26 = .ok (.aload_n 0, 1) := by decide +kernel
theorem dX2_remember_27 : decode cX2_remember 27 = .ok (.dup, 1) := by decide +kernel
theorem dX2_remember_28 : decode cX2_remember 28 = .ok (.getfield 18, 3) := by decide +kernel
theorem dX2_remember_31 : decode cX2_remember 31 = .ok (.iconst 1, 1) := by decide +kernel
theorem dX2_remember_32 : decode cX2_remember 32 = .ok (.iadd, 1) := by decide +kernel
theorem dX2_remember_33 : decode cX2_remember 33 = .ok (.putfield 18, 3) := by decide +kernel
theorem dX2_remember_36 : decode cX2_remember 36 = .ok (.return_, 1) := by decide +kernel
theorem dX2_forgetOldest_0 : decode cX2_forgetOldest 0 = .ok (.aload_n 0, 1) := by decide +kernel
theorem dX2_forgetOldest_1 : decode cX2_forgetOldest 1 = .ok (.getfield 11, 3) := by decide +kernel
theorem dX2_forgetOldest_4 : decode cX2_forgetOldest 4 = .ok (.iconst 0, 1) := by decide +kernel
theorem dX2_forgetOldest_5 : decode cX2_forgetOldest 5 = .ok (.aaload, 1) := by decide +kernel
theorem dX2_forgetOldest_6 : decode cX2_forgetOldest 6 = .ok (.astore_n 1, 1) := by decide +kernel
theorem dX2_forgetOldest_7 : decode cX2_forgetOldest 7 = .ok (.iconst 1, 1) := by decide +kernel
theorem dX2_forgetOldest_8 : decode cX2_forgetOldest 8 = .ok (.istore_n 2, 1) := by decide +kernel
theorem dX2_forgetOldest_9 : decode cX2_forgetOldest 9 = .ok (.iload_n 2, 1) := by decide +kernel
theorem dX2_forgetOldest_10 : decode cX2_forgetOldest 10 = .ok (.aload_n 0, 1) := by decide +kernel
theorem dX2_forgetOldest_11 : decode cX2_forgetOldest 11 = .ok (.getfield 11, 3) := by decide +kernel
theorem dX2_forgetOldest_14 : decode cX2_forgetOldest 14 = .ok (.arraylength, 1) := by decide +kernel
theorem dX2_forgetOldest_15 : decode cX2_forgetOldest 15 = .ok (.if_icmp .ge 23, 3) := by decide +kernel
theorem dX2_forgetOldest_18 : decode cX2_forgetOldest 18 = .ok (.aload_n 0, 1) := by decide +kernel
theorem dX2_forgetOldest_19 : decode cX2_forgetOldest 19 = .ok (.getfield 11, 3) := by decide +kernel
theorem dX2_forgetOldest_22 : decode cX2_forgetOldest 22 = .ok (.iload_n 2, 1) := by decide +kernel
theorem dX2_forgetOldest_23 : decode cX2_forgetOldest 23 = .ok (.iconst 1, 1) := by decide +kernel
theorem dX2_forgetOldest_24 : decode cX2_forgetOldest 24 = .ok (.isub, 1) := by decide +kernel
theorem dX2_forgetOldest_25 : decode cX2_forgetOldest 25 = .ok (.aload_n 0, 1) := by decide +kernel
theorem dX2_forgetOldest_26 : decode cX2_forgetOldest 26 = .ok (.getfield 11, 3) := by decide +kernel
theorem dX2_forgetOldest_29 : decode cX2_forgetOldest 29 = .ok (.iload_n 2, 1) := by decide +kernel
theorem dX2_forgetOldest_30 : decode cX2_forgetOldest 30 = .ok (.aaload, 1) := by decide +kernel
theorem dX2_forgetOldest_31 : decode cX2_forgetOldest 31 = .ok (.aastore, 1) := by decide +kernel
theorem dX2_forgetOldest_32 : decode cX2_forgetOldest 32 = .ok (.iinc 2 1, 3) := by decide +kernel
theorem dX2_forgetOldest_35 : decode cX2_forgetOldest 35 = .ok (.goto (-26), 3) := by decide +kernel
theorem dX2_forgetOldest_38 : decode cX2_forgetOldest 38 = .ok (.aload_n 0, 1) := by decide +kernel
theorem dX2_forgetOldest_39 : decode cX2_forgetOldest 39 = .ok (.getfield 11, 3) := by decide +kernel
theorem dX2_forgetOldest_42 : decode cX2_forgetOldest 42 = .ok (.bipush 13, 2) := by decide +kernel
theorem dX2_forgetOldest_44 : decode cX2_forgetOldest 44 = .ok (.aload_n 1, 1) := by decide +kernel
theorem dX2_forgetOldest_45 : decode cX2_forgetOldest 45 = .ok (.aastore, 1) := by decide +kernel
theorem dX2_forgetOldest_46 : decode cX2_forgetOldest 46 = .ok (.aload_n 0, 1) := by decide +kernel
theorem dX2_forgetOldest_47 : decode cX2_forgetOldest 47 = .ok (.bipush 13, 2) := by decide +kernel
theorem dX2_forgetOldest_49 : decode cX2_forgetOldest 49 = .ok (.putfield 18, 3) := by decide +kernel
theorem dX2_forgetOldest_52 : decode cX2_forgetOldest 52 = .ok (.return_, 1) := by decide +kernel
set_option maxRecDepth 20000 in
theorem ggX2_takeBackInto_X5_copyFrom : GoodIn wsX2_takeBackInto wsX5_copyFrom := goodIn_r _ [7, 8, 9, 10, 11, 12, 13, 14, 15, 16, 17, 18, 19, 20, 21, 22, 23, 24, 25, 26, 27, 28, 29, 30, 31, 32, 33, 34, 35, 36, 37, 38, 39, 40, 41, 42, 43, 44, 45, 46, 47, 48, 49, 50, 51, 52, 53, 54, 55, 56, 57, 58, 59, 62, 63, 64, 65, 66, 67, 68, 69, 70, 71, 72, 73, 74, 75, 76, 77, 78, 79, 80, 81, 82, 83, 84, 85, 86, 87] (by decide +kernel) (by decide +kernel)
set_option maxRecDepth 20000 in
theorem gX2_takeBackInto_X5_copyFrom : GoodIn wsX2_takeBackInto (wsV RX2 25 RX5 yX5_copyFrom wsX5_copyFrom) := goodIn_app (goodIn_of _ (by decide +kernel)) ggX2_takeBackInto_X5_copyFrom
theorem dX2_takeBackInto_0 : decode cX2_takeBackInto 0 = .ok (.aload_n 0, 1) := by decide +kernel
theorem dX2_takeBackInto_1 : decode cX2_takeBackInto 1 = .ok (.dup, 1) := by decide +kernel
theorem dX2_takeBackInto_2 : decode cX2_takeBackInto 2 = .ok (.getfield 18, 3) := by decide +kernel
theorem dX2_takeBackInto_5 : decode cX2_takeBackInto 5 = .ok (.iconst 1, 1) := by decide +kernel
theorem dX2_takeBackInto_6 : decode cX2_takeBackInto 6 = .ok (.isub, 1) := by decide +kernel
theorem dX2_takeBackInto_7 : decode cX2_takeBackInto 7 = .ok (.putfield 18, 3) := by decide +kernel
theorem dX2_takeBackInto_10 : decode cX2_takeBackInto 10 = .ok (.aload_n 1, 1) := by decide +kernel
theorem dX2_takeBackInto_11 : decode cX2_takeBackInto 11 = .ok (.aload_n 0, 1) := by decide +kernel
theorem dX2_takeBackInto_12 : decode cX2_takeBackInto 12 = .ok (.getfield 11, 3) := by decide +kernel
theorem dX2_takeBackInto_15 : decode cX2_takeBackInto 15 = .ok (.aload_n 0, 1) := by decide +kernel
theorem dX2_takeBackInto_16 : decode cX2_takeBackInto 16 = .ok (.getfield 18, 3) := by decide +kernel
theorem dX2_takeBackInto_19 : decode cX2_takeBackInto 19 = .ok (.aaload, 1) := by decide +kernel
theorem dX2_takeBackInto_20 : decode cX2_takeBackInto 20 = .ok (.invokevirtual 25, 3) := by decide +kernel
theorem dX2_takeBackInto_23 : decode cX2_takeBackInto 23 = .ok (.return_, 1) := by decide +kernel
theorem dX3_fits_0 : decode cX3_fits 0 = .ok (.lload_n 1, 1) := by decide +kernel
theorem dX3_fits_1 : decode cX3_fits 1 = .ok (.lstore_n 3, 1) := by decide +kernel
theorem dX3_fits_2 : decode cX3_fits 2 = .ok (.iconst 0, 1) := by decide +kernel
theorem dX3_fits_3 : decode cX3_fits 3 = .ok (.istore 5, 2) := by decide +kernel
theorem dX3_fits_5 : decode cX3_fits 5 = .ok (.iload 5, 2) := by decide +kernel
theorem dX3_fits_7 : decode cX3_fits 7 = .ok (.iload_n 0, 1) := by decide +kernel
theorem dX3_fits_8 : decode cX3_fits 8 = .ok (.if_icmp .ge 15, 3) := by decide +kernel
theorem dX3_fits_11 : decode cX3_fits 11 = .ok (.lload_n 3, 1) := by decide +kernel
theorem dX3_fits_12 : decode cX3_fits 12 = .ok (.ldc2_w 9, 3) := by decide +kernel
theorem dX3_fits_15 : decode cX3_fits 15 = .ok (.ldiv, 1) := by decide +kernel
theorem dX3_fits_16 : decode cX3_fits 16 = .ok (.lstore_n 3, 1) := by decide +kernel
theorem dX3_fits_17 : decode cX3_fits 17 = .ok (.iinc 5 1, 3) := by decide +kernel
theorem dX3_fits_20 : decode cX3_fits 20 = .ok (.goto (-15), 3) := by decide +kernel
theorem dX3_fits_23 : decode cX3_fits 23 = .ok (.lload_n 3, 1) := by decide +kernel
theorem dX3_fits_24 : decode cX3_fits 24 = .ok (.lconst 0, 1) := by decide +kernel
theorem dX3_fits_25 : decode cX3_fits 25 = .ok (.lcmp, 1) := by decide +kernel
theorem dX3_fits_26 : decode cX3_fits 26 = .ok (.ifCond .ne 7, 3) := by decide +kernel
theorem dX3_fits_29 : decode cX3_fits 29 = .ok (.iconst 1, 1) := by decide +kernel
theorem dX3_fits_30 : decode cX3_fits 30 = .ok (.goto 4, 3) := by decide +kernel
theorem dX3_fits_33 : decode cX3_fits 33 = .ok (.iconst 0, 1) := by decide +kernel
theorem dX3_fits_34 : decode cX3_fits 34 = .ok (.ireturn, 1) := by decide +kernel
theorem dX3_command_0 : decode cX3_command 0 = .ok (.lload_n 1, 1) := by decide +kernel
theorem dX3_command_1 : decode cX3_command 1 = .ok (.lstore 4, 2) := by decide +kernel
theorem dX3_command_3 : decode cX3_command 3 = .ok (.iload_n 3, 1) := by decide +kernel
theorem dX3_command_4 : decode cX3_command 4 = .ok (.iconst 1, 1) := by decide +kernel
theorem dX3_command_5 : decode cX3_command 5 = .ok (.iadd, 1) := by decide +kernel
theorem dX3_command_6 : decode cX3_command 6 = .ok (.istore 6, 2) := by decide +kernel
theorem dX3_command_8 : decode cX3_command 8 = .ok (.iload 6, 2) := by decide +kernel
theorem dX3_command_10 : decode cX3_command 10 = .ok (.iload_n 0, 1) := by decide +kernel
theorem dX3_command_11 : decode cX3_command 11 = .ok (.if_icmp .ge 17, 3) := by decide +kernel
theorem dX3_command_14 : decode cX3_command 14 = .ok (.lload 4, 2) := by decide +kernel
theorem dX3_command_16 : decode cX3_command 16 = .ok (.ldc2_w 9, 3) := by decide +kernel
theorem dX3_command_19 : decode cX3_command 19 = .ok (.ldiv, 1) := by decide +kernel
theorem dX3_command_20 : decode cX3_command 20 = .ok (.lstore 4, 2) := by decide +kernel
theorem dX3_command_22 : decode cX3_command 22 = .ok (.iinc 6 1, 3) := by decide +kernel
theorem dX3_command_25 : decode cX3_command 25 = .ok (.goto (-17), 3) := by decide +kernel
theorem dX3_command_28 : decode cX3_command 28 = .ok (.lload 4, 2) := by decide +kernel
theorem dX3_command_30 : decode cX3_command 30 = .ok (.ldc2_w 9, 3) := by decide +kernel
theorem dX3_command_33 : decode cX3_command 33 = .ok (.lrem, 1) := by decide +kernel
theorem dX3_command_34 : decode cX3_command 34 = .ok (.l2i, 1) := by decide +kernel
theorem dX3_command_35 : decode cX3_command 35 = .ok (.ireturn, 1) := by decide +kernel
set_option maxRecDepth 20000 in
theorem ggX3_runs_X3_passes : GoodIn wsX3_runs wsX3_passes := goodIn_r _ [6, 7, 8, 9, 10, 11, 12, 13, 14, 15, 16, 17, 18, 19, 20, 21, 22, 23, 24, 25, 26, 27, 28, 29, 30, 31, 32, 33, 34, 35, 36, 37, 38, 39, 40, 41, 42, 43, 44, 45, 46, 47, 48, 49, 50, 51, 52, 53, 54, 55, 56, 57, 58, 59, 60, 61, 62, 63, 64, 65, 66, 67, 68, 69, 70, 71, 72, 73, 74, 75, 76, 77, 78, 79, 80, 81, 82, 83, 84, 85, 86, 87, 88, 89, 90, 91, 92, 93, 94, 151, 152, 153, 154, 155, 156, 157, 158, 159, 160, 161, 162, 163, 164, 165, 166, 167, 168, 169, 170, 171, 172, 173, 174, 175, 176] (by decide +kernel) (by decide +kernel)
set_option maxRecDepth 20000 in
theorem gX3_runs_X3_passes : GoodIn wsX3_runs (va_wsS RX3 11 yX3_passes wsX3_passes) := goodIn_app (goodIn_of _ (by decide +kernel)) ggX3_runs_X3_passes
set_option maxRecDepth 20000 in
theorem ggX3_runs_X3_setsLevel : GoodIn wsX3_runs wsX3_setsLevel := goodIn_r _ [97, 98, 99, 100, 10, 101, 16, 102, 18, 19, 20, 21, 22, 23, 24, 31, 32, 33, 34, 35, 36, 37, 38, 39, 40, 41, 42, 43, 44, 45, 46, 47, 48, 49, 50, 51, 52, 53, 54, 55, 56, 57, 58, 59, 60, 61, 62, 63, 64, 65, 66, 67, 68, 151, 152, 153, 154, 155, 156, 157, 158, 159, 160, 161, 162, 163, 164, 165, 166, 167, 168, 169, 170, 171, 172, 173, 174, 175, 176] (by decide +kernel) (by decide +kernel)
set_option maxRecDepth 20000 in
theorem gX3_runs_X3_setsLevel : GoodIn wsX3_runs (va_wsS RX3 17 yX3_setsLevel wsX3_setsLevel) := goodIn_app (goodIn_of _ (by decide +kernel)) ggX3_runs_X3_setsLevel
set_option maxRecDepth 20000 in
theorem ggX3_runs_X3_signed : GoodIn wsX3_runs wsX3_signed := goodIn_r _ [105] (by decide +kernel) (by decide +kernel)
set_option maxRecDepth 20000 in
theorem gX3_runs_X3_signed : GoodIn wsX3_runs (va_wsS RX3 20 yX3_signed wsX3_signed) := goodIn_app (goodIn_of _ (by decide +kernel)) ggX3_runs_X3_signed
set_option maxRecDepth 20000 in
theorem ggX3_runs_X3_corrects : GoodIn wsX3_runs wsX3_corrects := goodIn_r _ [108, 109, 110, 111, 112, 113, 10, 114, 16, 18, 19, 20, 21, 22, 23, 24, 151, 152, 153, 154, 155, 156, 170, 171, 172, 173, 174, 175, 176, 157, 158, 159, 160] (by decide +kernel) (by decide +kernel)
set_option maxRecDepth 20000 in
theorem gX3_runs_X3_corrects : GoodIn wsX3_runs (va_wsS RX3 24 yX3_corrects wsX3_corrects) := goodIn_app (goodIn_of _ (by decide +kernel)) ggX3_runs_X3_corrects
set_option maxRecDepth 20000 in
theorem ggX3_runs_X3_writes : GoodIn wsX3_runs wsX3_writes := goodIn_r _ [117, 2, 111, 112, 113, 10, 114, 16, 18, 19, 20, 21, 22, 23, 24, 151, 152, 153, 154, 155, 156, 157, 158, 159, 160] (by decide +kernel) (by decide +kernel)
set_option maxRecDepth 20000 in
theorem gX3_runs_X3_writes : GoodIn wsX3_runs (va_wsS RX3 27 yX3_writes wsX3_writes) := goodIn_app (goodIn_of _ (by decide +kernel)) ggX3_runs_X3_writes
set_option maxRecDepth 20000 in
theorem ggX3_runs_X3_tampersAt : GoodIn wsX3_runs wsX3_tampersAt := goodIn_r _ [120, 121, 122, 123, 10, 124, 41, 125, 16, 40, 126, 18, 19, 20, 21, 22, 23, 24, 53, 54, 55, 56, 57, 127, 128, 129, 130, 131, 132, 133, 134, 135, 136, 151, 152, 153, 154, 155, 156, 161, 162, 163, 164, 165, 166, 170, 171, 172, 173, 174, 175, 176, 157, 158, 159, 160] (by decide +kernel) (by decide +kernel)
set_option maxRecDepth 20000 in
theorem gX3_runs_X3_tampersAt : GoodIn wsX3_runs (va_wsS RX3 31 yX3_tampersAt wsX3_tampersAt) := goodIn_app (goodIn_of _ (by decide +kernel)) ggX3_runs_X3_tampersAt
set_option maxRecDepth 20000 in
theorem ggX3_runs_X3_unsetsAlarm : GoodIn wsX3_runs wsX3_unsetsAlarm := goodIn_r _ [139, 140, 141, 142, 143, 144, 65, 145, 90, 67, 151, 152, 153, 154, 155, 156, 167, 168, 169] (by decide +kernel) (by decide +kernel)
set_option maxRecDepth 20000 in
theorem gX3_runs_X3_unsetsAlarm : GoodIn wsX3_runs (va_wsS RX3 34 yX3_unsetsAlarm wsX3_unsetsAlarm) := goodIn_app (goodIn_of _ (by decide +kernel)) ggX3_runs_X3_unsetsAlarm
set_option maxRecDepth 20000 in
theorem ggX3_runs_X6_domain : GoodIn wsX3_runs wsX6_domain := goodIn_r _ [22, 23, 24, 157, 158, 159, 160] (by decide +kernel) (by decide +kernel)
set_option maxRecDepth 20000 in
theorem gX3_runs_X6_domain : GoodIn wsX3_runs (wsV RX3 43 RX6 yX6_domain wsX6_domain) := goodIn_app (goodIn_of _ (by decide +kernel)) ggX3_runs_X6_domain
set_option maxRecDepth 20000 in
theorem ggX3_runs_X5_offset : GoodIn wsX3_runs wsX5_offset := goodIn_r _ [150, 40, 126, 17, 151, 152, 153, 154, 155, 156, 170, 171, 172, 173, 174, 175, 176] (by decide +kernel) (by decide +kernel)
set_option maxRecDepth 20000 in
theorem gX3_runs_X5_offset : GoodIn wsX3_runs (wsV RX3 53 RX5 yX5_offset wsX5_offset) := goodIn_app (goodIn_of _ (by decide +kernel)) ggX3_runs_X5_offset
theorem dX3_runs_0 : decode cX3_runs 0 = .ok (.iload_n 1, 1) := by decide +kernel
theorem dX3_runs_1 : decode cX3_runs 1 = .ok (.sipush 1000, 3) := by decide +kernel
theorem dX3_runs_4 : decode cX3_runs 4 = .ok (.idiv, 1) := by decide +kernel
theorem dX3_runs_5 : decode cX3_runs 5 = .ok (.bipush 10, 2) := by decide +kernel
theorem dX3_runs_7 : decode cX3_runs 7 = .ok (.irem, 1) := by decide +kernel
theorem dX3_runs_8 : decode cX3_runs 8 = .ok (.istore_n 2, 1) := by decide +kernel
theorem dX3_runs_9 : decode cX3_runs 9 = .ok (.iload_n 1, 1) := by decide +kernel
theorem dX3_runs_10 : decode cX3_runs 10 = .ok (.sipush 1000, 3) := by decide +kernel
theorem dX3_runs_13 : decode cX3_runs 13 = .ok (.irem, 1) := by decide +kernel
theorem dX3_runs_14 : decode cX3_runs 14 = .ok (.istore_n 3, 1) := by decide +kernel
theorem dX3_runs_15 : decode cX3_runs 15 = .ok (.iload_n 1, 1) := by decide +kernel
theorem dX3_runs_16 : decode cX3_runs 16 = .ok (.bipush 10, 2) := by decide +kernel
theorem dX3_runs_18 : decode cX3_runs 18 = .ok (.idiv, 1) := by decide +kernel
theorem dX3_runs_19 : decode cX3_runs 19 = .ok (.sipush 1000, 3) := by decide +kernel
theorem dX3_runs_22 : decode cX3_runs 22 = .ok (.irem, 1) := by decide +kernel
theorem dX3_runs_23 : decode cX3_runs 23 = .ok (.ifCond .ne 7, 3) := by decide +kernel
theorem dX3_runs_26 : decode cX3_runs 26 = .ok (.iconst 1, 1) := by decide +kernel
theorem dX3_runs_27 : decode cX3_runs 27 = .ok (.goto 4, 3) := by decide +kernel
theorem dX3_runs_30 : decode cX3_runs 30 = .ok (.iconst 0, 1) := by decide +kernel
theorem dX3_runs_31 : decode cX3_runs 31 = .ok (.istore 4, 2) := by decide +kernel
theorem dX3_runs_33 : decode cX3_runs 33 = .ok (.iload_n 1, 1) := by decide +kernel
theorem dX3_runs_34 : decode cX3_runs 34 = .ok (.sipush 10000, 3) := by decide +kernel
theorem dX3_runs_37 : decode cX3_runs 37 = .ok (.idiv, 1) := by decide +kernel
theorem dX3_runs_38 : decode cX3_runs 38 = .ok (.tableswitch 222 1 9 #[50, 60, 82, 105, 112, 134, 152, 177, 199], 50) := by decide +kernel
theorem dX3_runs_88 : decode cX3_runs 88 = .ok (.aload_n 0, 1) := by decide +kernel
theorem dX3_runs_89 : decode cX3_runs 89 = .ok (.iload_n 1, 1) := by decide +kernel
theorem dX3_runs_90 : decode cX3_runs 90 = .ok (.sipush 10000, 3) := by decide +kernel
theorem dX3_runs_93 : decode cX3_runs 93 = .ok (.irem, 1) := by decide +kernel
theorem dX3_runs_94 : decode cX3_runs 94 = .ok (.invokestatic 11, 3) := by decide +kernel
theorem dX3_runs_97 : decode cX3_runs 97 = .ok (.ireturn, 1) := by decide +kernel
theorem dX3_runs_98 : decode cX3_runs 98 = .ok (.iload 4, 2) := by decide +kernel
theorem dX3_runs_100 : decode cX3_runs 100 = .ok (.ifCond .eq 18, 3) := by decide +kernel
theorem dX3_runs_103 : decode cX3_runs 103 = .ok (.aload_n 0, 1) := by decide +kernel
theorem dX3_runs_104 : decode cX3_runs 104 = .ok (.iload_n 1, 1) := by decide +kernel
theorem dX3_runs_105 : decode cX3_runs 105 = .ok (.bipush 10, 2) := by decide +kernel
theorem dX3_runs_107 : decode cX3_runs 107 = .ok (.irem, 1) := by decide +kernel
theorem dX3_runs_108 : decode cX3_runs 108 = .ok (.invokestatic 17, 3) := by decide +kernel
theorem dX3_runs_111 : decode cX3_runs 111 = .ok (.ifCond .eq 7, 3) := by decide +kernel
theorem dX3_runs_114 : decode cX3_runs 114 = .ok (.iconst 1, 1) := by decide +kernel
theorem dX3_runs_115 : decode cX3_runs 115 = .ok (.goto 4, 3) := by decide +kernel
theorem dX3_runs_118 : decode cX3_runs 118 = .ok (.iconst 0, 1) := by decide +kernel
theorem dX3_runs_119 : decode cX3_runs 119 = .ok (.ireturn, 1) := by decide +kernel
theorem dX3_runs_120 : decode cX3_runs 120 = .ok (.iload_n 2, 1) := by decide +kernel
theorem dX3_runs_121 : decode cX3_runs 121 = .ok (.iconst 1, 1) := by decide +kernel
theorem dX3_runs_122 : decode cX3_runs 122 = .ok (.if_icmp .gt 19, 3) := by decide +kernel
theorem dX3_runs_125 : decode cX3_runs 125 = .ok (.aload_n 0, 1) := by decide +kernel
theorem dX3_runs_126 : decode cX3_runs 126 = .ok (.iload_n 2, 1) := by decide +kernel
theorem dX3_runs_127 : decode cX3_runs 127 = .ok (.iload_n 3, 1) := by decide +kernel
theorem dX3_runs_128 : decode cX3_runs 128 = .ok (.invokestatic 20, 3) := by decide +kernel
theorem dX3_runs_131 : decode cX3_runs 131 = .ok (.invokestatic 24, 3) := by decide +kernel
theorem dX3_runs_134 : decode cX3_runs 134 = .ok (.ifCond .eq 7, 3) := by decide +kernel
theorem dX3_runs_137 : decode cX3_runs 137 = .ok (.iconst 1, 1) := by decide +kernel
theorem dX3_runs_138 : decode cX3_runs 138 = .ok (.goto 4, 3) := by decide +kernel
theorem dX3_runs_141 : decode cX3_runs 141 = .ok (.iconst 0, 1) := by decide +kernel
theorem dX3_runs_142 : decode cX3_runs 142 = .ok (.ireturn, 1) := by decide +kernel
theorem dX3_runs_143 : decode cX3_runs 143 = .ok (.aload_n 0, 1) := by decide +kernel
theorem dX3_runs_144 : decode cX3_runs 144 = .ok (.iload_n 2, 1) := by decide +kernel
theorem dX3_runs_145 : decode cX3_runs 145 = .ok (.iload_n 3, 1) := by decide +kernel
theorem dX3_runs_146 : decode cX3_runs 146 = .ok (.invokestatic 27, 3) := by decide +kernel
theorem dX3_runs_149 : decode cX3_runs 149 = .ok (.ireturn, 1) := by decide +kernel
theorem dX3_runs_150 : decode cX3_runs 150 = .ok (.iload 4, 2) := by decide +kernel
theorem dX3_runs_152 : decode cX3_runs 152 = .ok (.ifCond .eq 18, 3) := by decide +kernel
theorem dX3_runs_155 : decode cX3_runs 155 = .ok (.aload_n 0, 1) := by decide +kernel
theorem dX3_runs_156 : decode cX3_runs 156 = .ok (.iload_n 1, 1) := by decide +kernel
theorem dX3_runs_157 : decode cX3_runs 157 = .ok (.bipush 10, 2) := by decide +kernel
theorem dX3_runs_159 : decode cX3_runs 159 = .ok (.irem, 1) := by decide +kernel
theorem dX3_runs_160 : decode cX3_runs 160 = .ok (.invokestatic 31, 3) := by decide +kernel
theorem dX3_runs_163 : decode cX3_runs 163 = .ok (.ifCond .eq 7, 3) := by decide +kernel
theorem dX3_runs_166 : decode cX3_runs 166 = .ok (.iconst 1, 1) := by decide +kernel
theorem dX3_runs_167 : decode cX3_runs 167 = .ok (.goto 4, 3) := by decide +kernel
theorem dX3_runs_170 : decode cX3_runs 170 = .ok (.iconst 0, 1) := by decide +kernel
theorem dX3_runs_171 : decode cX3_runs 171 = .ok (.ireturn, 1) := by decide +kernel
theorem dX3_runs_172 : decode cX3_runs 172 = .ok (.iload_n 3, 1) := by decide +kernel
theorem dX3_runs_173 : decode cX3_runs 173 = .ok (.ifCond .ne 15, 3) := by decide +kernel
theorem dX3_runs_176 : decode cX3_runs 176 = .ok (.aload_n 0, 1) := by decide +kernel
theorem dX3_runs_177 : decode cX3_runs 177 = .ok (.iload_n 2, 1) := by decide +kernel
theorem dX3_runs_178 : decode cX3_runs 178 = .ok (.invokestatic 34, 3) := by decide +kernel
theorem dX3_runs_181 : decode cX3_runs 181 = .ok (.ifCond .eq 7, 3) := by decide +kernel
theorem dX3_runs_184 : decode cX3_runs 184 = .ok (.iconst 1, 1) := by decide +kernel
theorem dX3_runs_185 : decode cX3_runs 185 = .ok (.goto 4, 3) := by decide +kernel
theorem dX3_runs_188 : decode cX3_runs 188 = .ok (.iconst 0, 1) := by decide +kernel
theorem dX3_runs_189 : decode cX3_runs 189 = .ok (.ireturn, 1) := by decide +kernel
theorem dX3_runs_190 : decode cX3_runs 190 = .ok (.iload 4, 2) := by decide +kernel
theorem dX3_runs_192 : decode cX3_runs 192 = .ok (.ifCond .eq 21, 3) := by decide +kernel
theorem dX3_runs_195 : decode cX3_runs 195 = .ok (.aload_n 0, 1) := by decide +kernel
theorem dX3_runs_196 : decode cX3_runs 196 = .ok (.getfield 37, 3) := by decide +kernel
theorem dX3_runs_199 : decode cX3_runs 199 = .ok (.invokevirtual 43, 3) := by decide +kernel
theorem dX3_runs_202 : decode cX3_runs 202 = .ok (.iload_n 1, 1) := by decide +kernel
theorem dX3_runs_203 : decode cX3_runs 203 = .ok (.bipush 10, 2) := by decide +kernel
theorem dX3_runs_205 : decode cX3_runs 205 = .ok (.irem, 1) := by decide +kernel
theorem dX3_runs_206 : decode cX3_runs 206 = .ok (.if_icmp .ne 7, 3) := by decide +kernel
theorem dX3_runs_209 : decode cX3_runs 209 = .ok (.iconst 1, 1) := by decide +kernel
theorem dX3_runs_210 : decode cX3_runs 210 = .ok (.goto 4, 3) := by decide +kernel
theorem dX3_runs_213 : decode cX3_runs 213 = .ok (.iconst 0, 1) := by decide +kernel
theorem dX3_runs_214 : decode cX3_runs 214 = .ok (.ireturn, 1) := by decide +kernel
theorem dX3_runs_215 : decode cX3_runs 215 = .ok (.iload_n 2, 1) := by decide +kernel
theorem dX3_runs_216 : decode cX3_runs 216 = .ok (.bipush 8, 2) := by decide +kernel
theorem dX3_runs_218 : decode cX3_runs 218 = .ok (.if_icmp .ge 17, 3) := by decide +kernel
theorem dX3_runs_221 : decode cX3_runs 221 = .ok (.aload_n 0, 1) := by decide +kernel
theorem dX3_runs_222 : decode cX3_runs 222 = .ok (.getfield 49, 3) := by decide +kernel
theorem dX3_runs_225 : decode cX3_runs 225 = .ok (.iload_n 2, 1) := by decide +kernel
theorem dX3_runs_226 : decode cX3_runs 226 = .ok (.iaload, 1) := by decide +kernel
theorem dX3_runs_227 : decode cX3_runs 227 = .ok (.iload_n 3, 1) := by decide +kernel
theorem dX3_runs_228 : decode cX3_runs 228 = .ok (.if_icmp .ne 7, 3) := by decide +kernel
theorem dX3_runs_231 : decode cX3_runs 231 = .ok (.iconst 1, 1) := by decide +kernel
theorem dX3_runs_232 : decode cX3_runs 232 = .ok (.goto 4, 3) := by decide +kernel
theorem dX3_runs_235 : decode cX3_runs 235 = .ok (.iconst 0, 1) := by decide +kernel
theorem dX3_runs_236 : decode cX3_runs 236 = .ok (.ireturn, 1) := by decide +kernel
theorem dX3_runs_237 : decode cX3_runs 237 = .ok (.iload_n 2, 1) := by decide +kernel
theorem dX3_runs_238 : decode cX3_runs 238 = .ok (.iconst 1, 1) := by decide +kernel
theorem dX3_runs_239 : decode cX3_runs 239 = .ok (.if_icmp .gt 19, 3) := by decide +kernel
theorem dX3_runs_242 : decode cX3_runs 242 = .ok (.aload_n 0, 1) := by decide +kernel
theorem dX3_runs_243 : decode cX3_runs 243 = .ok (.invokevirtual 53, 3) := by decide +kernel
theorem dX3_runs_246 : decode cX3_runs 246 = .ok (.iload_n 2, 1) := by decide +kernel
theorem dX3_runs_247 : decode cX3_runs 247 = .ok (.iload_n 3, 1) := by decide +kernel
theorem dX3_runs_248 : decode cX3_runs 248 = .ok (.invokestatic 20, 3) := by decide +kernel
theorem dX3_runs_251 : decode cX3_runs 251 = .ok (.if_icmp .gt 7, 3) := by decide +kernel
theorem dX3_runs_254 : decode cX3_runs 254 = .ok (.iconst 1, 1) := by decide +kernel
theorem dX3_runs_255 : decode cX3_runs 255 = .ok (.goto 4, 3) := by decide +kernel
theorem dX3_runs_258 : decode cX3_runs 258 = .ok (.iconst 0, 1) := by decide +kernel
theorem dX3_runs_259 : decode cX3_runs 259 = .ok (.ireturn, 1) := by decide +kernel
theorem dX3_runs_260 : decode cX3_runs 260 = .ok (.iconst 0, 1) := by decide +kernel
theorem dX3_runs_261 : decode cX3_runs 261 = .ok (.ireturn, 1) := by decide +kernel
theorem dX3_signed_0 : decode cX3_signed 0 = .ok (.iload_n 0, 1) := by decide +kernel
theorem dX3_signed_1 : decode cX3_signed 1 = .ok (.ifCond .ne 7, 3) := by decide +kernel
theorem dX3_signed_4 : decode cX3_signed 4 = .ok (.iload_n 1, 1) := by decide +kernel
theorem dX3_signed_5 : decode cX3_signed 5 = .ok (.goto 5, 3) := by decide +kernel
theorem dX3_signed_8 : decode cX3_signed 8 = .ok (.iload_n 1, 1) := by decide +kernel
theorem dX3_signed_9 : decode cX3_signed 9 = .ok (.ineg, 1) := by decide +kernel
theorem dX3_signed_10 : decode cX3_signed 10 = .ok (.ireturn, 1) := by decide +kernel
set_option maxRecDepth 20000 in
theorem ggX3_passes_X5_passMinutes : GoodIn wsX3_passes wsX5_passMinutes := goodIn_r _ [5, 6, 7, 8, 4, 9, 10, 11, 12, 13, 14, 15, 16, 17, 18, 19, 20, 21, 22, 23, 24, 25, 26, 27, 28, 29, 30, 31, 32, 33, 34, 35, 36, 37, 38, 39, 40, 41, 42, 43, 44, 45, 46, 47, 48, 49, 50, 51, 52, 53, 54, 55, 56, 57, 58, 59, 60, 61, 62, 63, 64, 65, 66, 67, 68, 69, 70, 71, 72, 73, 74, 75, 76, 77, 78, 79, 80, 81, 82, 83, 84, 85, 86, 87, 88, 89, 90, 91, 92, 93, 94, 95, 96, 97, 98, 99, 100, 101, 102, 103, 104, 105, 106, 107, 108, 109, 110, 111, 112, 113, 114] (by decide +kernel) (by decide +kernel)
set_option maxRecDepth 20000 in
theorem gX3_passes_X5_passMinutes : GoodIn wsX3_passes (wsV RX3 56 RX5 yX5_passMinutes wsX5_passMinutes) := goodIn_app (goodIn_of _ (by decide +kernel)) ggX3_passes_X5_passMinutes
theorem dX3_passes_0 : decode cX3_passes 0 = .ok (.iload_n 1, 1) := by decide +kernel
theorem dX3_passes_1 : decode cX3_passes 1 = .ok (.iconst 1, 1) := by decide +kernel
theorem dX3_passes_2 : decode cX3_passes 2 = .ok (.if_icmp .lt 10, 3) := by decide +kernel
theorem dX3_passes_5 : decode cX3_passes 5 = .ok (.iload_n 1, 1) := by decide +kernel
theorem dX3_passes_6 : decode cX3_passes 6 = .ok (.sipush 1440, 3) := by decide +kernel
theorem dX3_passes_9 : decode cX3_passes 9 = .ok (.if_icmp .le 5, 3) := by decide +kernel
theorem dX3_passes_12 : decode cX3_passes 12 = .ok (.iconst 0, 1) := by decide +kernel
theorem dX3_passes_13 : decode cX3_passes 13 = .ok (.ireturn, 1) := by decide +kernel
theorem dX3_passes_14 : decode cX3_passes 14 = .ok (.aload_n 0, 1) := by decide +kernel
theorem dX3_passes_15 : decode cX3_passes 15 = .ok (.iload_n 1, 1) := by decide +kernel
theorem dX3_passes_16 : decode cX3_passes 16 = .ok (.invokevirtual 56, 3) := by decide +kernel
theorem dX3_passes_19 : decode cX3_passes 19 = .ok (.iconst 1, 1) := by decide +kernel
theorem dX3_passes_20 : decode cX3_passes 20 = .ok (.ireturn, 1) := by decide +kernel
set_option maxRecDepth 20000 in
theorem ggX3_setsLevel_X5_changeLevel : GoodIn wsX3_setsLevel wsX5_changeLevel := goodIn_r _ [5, 6, 7, 8, 9, 10, 11, 12, 13, 14, 15, 16, 17, 4, 18, 19, 20, 21, 22, 23, 24, 25, 26, 27, 28, 29, 30, 31, 32, 33, 34, 35, 36, 37, 38, 39, 40, 41, 42, 43, 44, 45, 46, 47, 48, 49, 50, 51, 52, 53, 54, 55, 56, 57, 58, 59, 60, 61, 62, 63, 64, 65, 66, 67, 68, 69, 70, 71, 72, 73, 74, 75, 76, 77, 78] (by decide +kernel) (by decide +kernel)
set_option maxRecDepth 20000 in
theorem gX3_setsLevel_X5_changeLevel : GoodIn wsX3_setsLevel (wsV RX3 60 RX5 yX5_changeLevel wsX5_changeLevel) := goodIn_app (goodIn_of _ (by decide +kernel)) ggX3_setsLevel_X5_changeLevel
theorem dX3_setsLevel_0 : decode cX3_setsLevel 0 = .ok (.aload_n 0, 1) := by decide +kernel
theorem dX3_setsLevel_1 : decode cX3_setsLevel 1 = .ok (.iload_n 1, 1) := by decide +kernel
theorem dX3_setsLevel_2 : decode cX3_setsLevel 2 = .ok (.invokevirtual 60, 3) := by decide +kernel
theorem dX3_setsLevel_5 : decode cX3_setsLevel 5 = .ok (.iconst 1, 1) := by decide +kernel
theorem dX3_setsLevel_6 : decode cX3_setsLevel 6 = .ok (.ireturn, 1) := by decide +kernel
set_option maxRecDepth 20000 in
theorem ggX3_corrects_X5_isWritable : GoodIn wsX3_corrects wsX5_isWritable := goodIn_r _ [7, 8, 9, 10, 11, 12, 13, 14, 15, 16, 17, 18, 19, 20, 21, 29, 30, 31, 32] (by decide +kernel) (by decide +kernel)
set_option maxRecDepth 20000 in
theorem gX3_corrects_X5_isWritable : GoodIn wsX3_corrects (wsV RX3 63 RX5 yX5_isWritable wsX5_isWritable) := goodIn_app (goodIn_of _ (by decide +kernel)) ggX3_corrects_X5_isWritable
theorem dX3_corrects_0 : decode cX3_corrects 0 = .ok (.iload_n 1, 1) := by decide +kernel
theorem dX3_corrects_1 : decode cX3_corrects 1 = .ok (.sipush (-500), 3) := by decide +kernel
theorem dX3_corrects_4 : decode cX3_corrects 4 = .ok (.if_icmp .lt 17, 3) := by decide +kernel
theorem dX3_corrects_7 : decode cX3_corrects 7 = .ok (.iload_n 1, 1) := by decide +kernel
theorem dX3_corrects_8 : decode cX3_corrects 8 = .ok (.sipush 500, 3) := by decide +kernel
theorem dX3_corrects_11 : decode cX3_corrects 11 = .ok (.if_icmp .gt 10, 3) := by decide +kernel
theorem dX3_corrects_14 : decode cX3_corrects 14 = .ok (.aload_n 0, 1) := by decide +kernel
theorem dX3_corrects_15 : decode cX3_corrects 15 = .ok (.invokevirtual 63, 3) := by decide +kernel
theorem dX3_corrects_18 : decode cX3_corrects 18 = .ok (.ifCond .ne 5, 3) := by decide +kernel
theorem dX3_corrects_21 : decode cX3_corrects 21 = .ok (.iconst 0, 1) := by decide +kernel
theorem dX3_corrects_22 : decode cX3_corrects 22 = .ok (.ireturn, 1) := by decide +kernel
theorem dX3_corrects_23 : decode cX3_corrects 23 = .ok (.aload_n 0, 1) := by decide +kernel
theorem dX3_corrects_24 : decode cX3_corrects 24 = .ok (.getfield 67, 3) := by decide +kernel
theorem dX3_corrects_27 : decode cX3_corrects 27 = .ok (.iload_n 1, 1) := by decide +kernel
theorem dX3_corrects_28 : decode cX3_corrects 28 = .ok (.putfield 71, 3) := by decide +kernel
theorem dX3_corrects_31 : decode cX3_corrects 31 = .ok (.iconst 1, 1) := by decide +kernel
theorem dX3_corrects_32 : decode cX3_corrects 32 = .ok (.ireturn, 1) := by decide +kernel
set_option maxRecDepth 20000 in
theorem ggX3_writes_X5_isWritable : GoodIn wsX3_writes wsX5_isWritable := goodIn_r _ [6, 7, 8, 9, 10, 11, 12, 13, 14, 15, 16, 17, 18, 19, 20, 21, 22, 23, 24] (by decide +kernel) (by decide +kernel)
set_option maxRecDepth 20000 in
theorem gX3_writes_X5_isWritable : GoodIn wsX3_writes (wsV RX3 63 RX5 yX5_isWritable wsX5_isWritable) := goodIn_app (goodIn_of _ (by decide +kernel)) ggX3_writes_X5_isWritable
theorem dX3_writes_0 : decode cX3_writes 0 = .ok (.iload_n 1, 1) := by decide +kernel
theorem dX3_writes_1 : decode cX3_writes 1 = .ok (.bipush 8, 2) := by decide +kernel
theorem dX3_writes_3 : decode cX3_writes 3 = .ok (.if_icmp .ge 17, 3) := by decide +kernel
theorem dX3_writes_6 : decode cX3_writes 6 = .ok (.iload_n 2, 1) := by decide +kernel
theorem dX3_writes_7 : decode cX3_writes 7 = .ok (.sipush 255, 3) := by decide +kernel
theorem dX3_writes_10 : decode cX3_writes 10 = .ok (.if_icmp .gt 10, 3) := by decide +kernel
theorem dX3_writes_13 : decode cX3_writes 13 = .ok (.aload_n 0, 1) := by decide +kernel
theorem dX3_writes_14 : decode cX3_writes 14 = .ok (.invokevirtual 63, 3) := by decide +kernel
theorem dX3_writes_17 : decode cX3_writes 17 = .ok (.ifCond .ne 5, 3) := by decide +kernel
theorem dX3_writes_20 : decode cX3_writes 20 = .ok (.iconst 0, 1) := by decide +kernel
theorem dX3_writes_21 : decode cX3_writes 21 = .ok (.ireturn, 1) := by decide +kernel
theorem dX3_writes_22 : decode cX3_writes 22 = .ok (.aload_n 0, 1) := by decide +kernel
theorem dX3_writes_23 : decode cX3_writes 23 = .ok (.getfield 49, 3) := by decide +kernel
theorem dX3_writes_26 : decode cX3_writes 26 = .ok (.iload_n 1, 1) := by decide +kernel
theorem dX3_writes_27 : decode cX3_writes 27 = .ok (.iload_n 2, 1) := by decide +kernel
theorem dX3_writes_28 : decode cX3_writes 28 = .ok (.iastore, 1) := by decide +kernel
theorem dX3_writes_29 : decode cX3_writes 29 = .ok (.iconst 1, 1) := by decide +kernel
theorem dX3_writes_30 : decode cX3_writes 30 = .ok (.ireturn, 1) := by decide +kernel
set_option maxRecDepth 20000 in
theorem ggX3_tampersAt_X5_tamperAt : GoodIn wsX3_tampersAt wsX5_tamperAt := goodIn_r _ [5, 6, 7, 8, 9, 10, 11, 12, 13, 14, 15, 16, 17, 18, 19, 20, 4, 21, 22, 23, 24, 25, 26, 27, 28, 29, 30, 31, 32, 33, 34, 35, 36, 37, 38, 39, 40, 41, 42, 43, 44, 45, 46, 47, 48, 49, 50, 51, 52, 53, 54, 55] (by decide +kernel) (by decide +kernel)
set_option maxRecDepth 20000 in
theorem gX3_tampersAt_X5_tamperAt : GoodIn wsX3_tampersAt (wsV RX3 77 RX5 yX5_tamperAt wsX5_tamperAt) := goodIn_app (goodIn_of _ (by decide +kernel)) ggX3_tampersAt_X5_tamperAt
theorem dX3_tampersAt_0 : decode cX3_tampersAt 0 = .ok (.iload_n 1, 1) := by decide +kernel
theorem dX3_tampersAt_1 : decode cX3_tampersAt 1 = .ok (.iconst 3, 1) := by decide +kernel
theorem dX3_tampersAt_2 : decode cX3_tampersAt 2 = .ok (.if_icmp .lt 5, 3) := by decide +kernel
theorem dX3_tampersAt_5 : decode cX3_tampersAt 5 = .ok (.iconst 0, 1) := by decide +kernel
theorem dX3_tampersAt_6 : decode cX3_tampersAt 6 = .ok (.ireturn, 1) := by decide +kernel
theorem dX3_tampersAt_7 : decode cX3_tampersAt 7 = .ok (.aload_n 0, 1) := by decide +kernel
theorem dX3_tampersAt_8 : decode cX3_tampersAt 8 = .ok (.iload_n 1, 1) := by decide +kernel
theorem dX3_tampersAt_9 : decode cX3_tampersAt 9 = .ok (.invokevirtual 77, 3) := by decide +kernel
theorem dX3_tampersAt_12 : decode cX3_tampersAt 12 = .ok (.iconst 1, 1) := by decide +kernel
theorem dX3_tampersAt_13 : decode cX3_tampersAt 13 = .ok (.ireturn, 1) := by decide +kernel
set_option maxRecDepth 20000 in
theorem ggX3_unsetsAlarm_X0_setTo : GoodIn wsX3_unsetsAlarm wsX0_setTo := goodIn_r _ [7, 8, 9, 16, 17, 18] (by decide +kernel) (by decide +kernel)
set_option maxRecDepth 20000 in
theorem gX3_unsetsAlarm_X0_setTo : GoodIn wsX3_unsetsAlarm (wsV RX3 85 RX0 yX0_setTo wsX0_setTo) := goodIn_app (goodIn_of _ (by decide +kernel)) ggX3_unsetsAlarm_X0_setTo
theorem dX3_unsetsAlarm_0 : decode cX3_unsetsAlarm 0 = .ok (.iload_n 1, 1) := by decide +kernel
theorem dX3_unsetsAlarm_1 : decode cX3_unsetsAlarm 1 = .ok (.iconst 4, 1) := by decide +kernel
theorem dX3_unsetsAlarm_2 : decode cX3_unsetsAlarm 2 = .ok (.if_icmp .lt 5, 3) := by decide +kernel
theorem dX3_unsetsAlarm_5 : decode cX3_unsetsAlarm 5 = .ok (.iconst 0, 1) := by decide +kernel
theorem dX3_unsetsAlarm_6 : decode cX3_unsetsAlarm 6 = .ok (.ireturn, 1) := by decide +kernel
theorem dX3_unsetsAlarm_7 : decode cX3_unsetsAlarm 7 = .ok (.aload_n 0, 1) := by decide +kernel
theorem dX3_unsetsAlarm_8 : decode cX3_unsetsAlarm 8 = .ok (.getfield 80, 3) := by decide +kernel
theorem dX3_unsetsAlarm_11 : decode cX3_unsetsAlarm 11 = .ok (.iload_n 1, 1) := by decide +kernel
theorem dX3_unsetsAlarm_12 : decode cX3_unsetsAlarm 12 = .ok (.aaload, 1) := by decide +kernel
theorem dX3_unsetsAlarm_13 : decode cX3_unsetsAlarm 13 = .ok (.ldc 84, 2) := by decide +kernel
theorem dX3_unsetsAlarm_15 : decode cX3_unsetsAlarm 15 = .ok (.invokevirtual 85, 3) := by decide +kernel
theorem dX3_unsetsAlarm_18 : decode cX3_unsetsAlarm 18 = .ok (.iconst 1, 1) := by decide +kernel
theorem dX3_unsetsAlarm_19 : decode cX3_unsetsAlarm 19 = .ok (.ireturn, 1) := by decide +kernel
set_option maxRecDepth 20000 in
theorem ggX4_init_X5_init : GoodIn wsX4_init wsX5_init := goodIn_r _ [12, 13, 2, 3, 14, 15, 16, 17, 18, 19, 20, 21, 22, 23, 24, 25, 26, 27, 28, 29, 30, 31, 32, 33, 34, 35, 36, 37, 38, 39, 40, 41, 6, 42, 43, 44, 45, 46, 47, 48, 49, 50, 51, 9, 52, 53, 54, 55, 56, 57, 58, 59, 60, 61, 62, 63, 64, 65, 66, 67, 68, 69, 70, 71, 72, 73, 74, 75, 76, 77, 78, 79, 80, 81, 82, 83, 84, 85, 86, 87, 88, 89, 90, 91, 92, 93, 94, 95, 96, 97, 106, 107, 108, 109, 110, 111, 112, 100, 101, 102, 103, 104, 105, 113, 114, 115, 116, 117, 118, 119, 120, 121, 122, 123, 124, 125] (by decide +kernel) (by decide +kernel)
set_option maxRecDepth 20000 in
theorem gX4_init_X5_init : GoodIn wsX4_init (wsX5_init) := ggX4_init_X5_init
theorem dX4_init_0 : decode cX4_init 0 = .ok (.aload_n 0, 1) := by decide +kernel
theorem dX4_init_1 : decode cX4_init 1 = .ok (.invokespecial 3, 3) := by decide +kernel
theorem dX4_init_4 : decode cX4_init 4 = .ok (.aload_n 0, 1) := by decide +kernel
theorem dX4_init_5 : decode cX4_init 5 = .ok (.iconst 2, 1) := by decide +kernel
theorem dX4_init_6 : decode cX4_init 6 = .ok (.anewarray 9, 3) := by decide +kernel
theorem dX4_init_9 : decode cX4_init 9 = .ok (.putfield 11, 3) := by decide +kernel
theorem dX4_init_12 : decode cX4_init 12 = .ok (.aload_n 0, 1) := by decide +kernel
theorem dX4_init_13 : decode cX4_init 13 = .ok (.iconst 2, 1) := by decide +kernel
theorem dX4_init_14 : decode cX4_init 14 = .ok (.newarray .boolean, 2) := by decide +kernel
theorem dX4_init_16 : decode cX4_init 16 = .ok (.putfield 17, 3) := by decide +kernel
theorem dX4_init_19 : decode cX4_init 19 = .ok (.iconst 0, 1) := by decide +kernel
theorem dX4_init_20 : decode cX4_init 20 = .ok (.istore_n 1, 1) := by decide +kernel
theorem dX4_init_21 : decode cX4_init 21 = .ok (.iload_n 1, 1) := by decide +kernel
theorem dX4_init_22 : decode cX4_init 22 = .ok (.aload_n 0, 1) := by decide +kernel
theorem dX4_init_23 : decode cX4_init 23 = .ok (.getfield 11, 3) := by decide +kernel
theorem dX4_init_26 : decode cX4_init 26 = .ok (.arraylength, 1) := by decide +kernel
theorem dX4_init_27 : decode cX4_init 27 = .ok (.if_icmp .ge 22, 3) := by decide +kernel
theorem dX4_init_30 : decode cX4_init 30 = .ok (.aload_n 0, 1) := by decide +kernel
theorem dX4_init_31 : decode cX4_init 31 = .ok (.getfield 11, 3) := by decide +kernel
theorem dX4_init_34 : decode cX4_init 34 = .ok (.iload_n 1, 1) := by decide +kernel
theorem dX4_init_35 : decode cX4_init 35 = .ok (.new 9, 3) := by decide +kernel
theorem dX4_init_38 : decode cX4_init 38 = .ok (.dup, 1) := by decide +kernel
theorem dX4_init_39 : decode cX4_init 39 = .ok (.invokespecial 21, 3) := by decide +kernel
theorem dX4_init_42 : decode cX4_init 42 = .ok (.aastore, 1) := by decide +kernel
theorem dX4_init_43 : decode cX4_init 43 = .ok (.iinc 1 1, 3) := by decide +kernel
theorem dX4_init_46 : decode cX4_init 46 = .ok (.goto (-25), 3) := by decide +kernel
theorem dX4_init_49 : decode cX4_init 49 = .ok (.return_, 1) := by decide +kernel
theorem dX4_empty_0 : decode cX4_empty 0 = .ok (.iconst 0, 1) := by decide +kernel
theorem dX4_empty_1 : decode cX4_empty 1 = .ok (.istore_n 1, 1) := by decide +kernel
theorem dX4_empty_2 : decode cX4_empty 2 = .ok (.iload_n 1, 1) := by decide +kernel
theorem dX4_empty_3 : decode cX4_empty 3 = .ok (.aload_n 0, 1) := by decide +kernel
theorem dX4_empty_4 : decode cX4_empty 4 = .ok (.getfield 17, 3) := by decide +kernel
theorem dX4_empty_7 : decode cX4_empty 7 = .ok (.arraylength, 1) := by decide +kernel
theorem dX4_empty_8 : decode cX4_empty 8 = .ok (.if_icmp .ge 16, 3) := by decide +kernel
theorem dX4_empty_11 : decode cX4_empty 11 = .ok (.aload_n 0, 1) := by decide +kernel
theorem dX4_empty_12 : decode cX4_empty 12 = .ok (.getfield 17, 3) := by decide +kernel
theorem dX4_empty_15 : decode cX4_empty 15 = .ok (.iload_n 1, 1) := by decide +kernel

theorem dX0_isDue_0 : decode cX0_isDue 0 = .ok (.iload_n 1, 1) := by decide +kernel
theorem dX0_isDue_1 : decode cX0_isDue 1 = .ok (.iconst 1, 1) := by decide +kernel
theorem dX0_isDue_2 : decode cX0_isDue 2 = .ok (.iadd, 1) := by decide +kernel
theorem dX0_isDue_3 : decode cX0_isDue 3 = .ok (.istore_n 3, 1) := by decide +kernel
theorem dX0_isDue_4 : decode cX0_isDue 4 = .ok (.iload_n 3, 1) := by decide +kernel
theorem dX0_isDue_5 : decode cX0_isDue 5 = .ok (.iload_n 2, 1) := by decide +kernel
theorem dX0_isDue_6 : decode cX0_isDue 6 = .ok (.if_icmp .gt 23, 3) := by decide +kernel
theorem dX0_isDue_9 : decode cX0_isDue 9 = .ok (.iload_n 3, 1) := by decide +kernel
theorem dX0_isDue_10 : decode cX0_isDue 10 = .ok (.sipush 1440, 3) := by decide +kernel
theorem dX0_isDue_13 : decode cX0_isDue 13 = .ok (.irem, 1) := by decide +kernel
theorem dX0_isDue_14 : decode cX0_isDue 14 = .ok (.aload_n 0, 1) := by decide +kernel
theorem dX0_isDue_15 : decode cX0_isDue 15 = .ok (.getfield 20, 3) := by decide +kernel
theorem dX0_isDue_18 : decode cX0_isDue 18 = .ok (.if_icmp .ne 5, 3) := by decide +kernel
theorem dX0_isDue_21 : decode cX0_isDue 21 = .ok (.iconst 1, 1) := by decide +kernel
theorem dX0_isDue_22 : decode cX0_isDue 22 = .ok (.ireturn, 1) := by decide +kernel
theorem dX0_isDue_23 : decode cX0_isDue 23 = .ok (.iinc 3 1, 3) := by decide +kernel
theorem dX0_isDue_26 : decode cX0_isDue 26 = .ok (.goto (-22), 3) := by decide +kernel
theorem dX0_isDue_29 : decode cX0_isDue 29 = .ok (.iconst 0, 1) := by decide +kernel
theorem dX0_isDue_30 : decode cX0_isDue 30 = .ok (.ireturn, 1) := by decide +kernel
theorem dX0_come_0 : decode cX0_come 0 = .ok (.iload_n 1, 1) := by decide +kernel
theorem dX0_come_1 : decode cX0_come 1 = .ok (.ifCond .ne 16, 3) := by decide +kernel
theorem dX0_come_4 : decode cX0_come 4 = .ok (.aload_n 0, 1) := by decide +kernel
theorem dX0_come_5 : decode cX0_come 5 = .ok (.dup, 1) := by decide +kernel
theorem dX0_come_6 : decode cX0_come 6 = .ok (.getfield 16, 3) := by decide +kernel
theorem dX0_come_9 : decode cX0_come 9 = .ok (.iconst 1, 1) := by decide +kernel
theorem dX0_come_10 : decode cX0_come 10 = .ok (.iadd, 1) := by decide +kernel
theorem dX0_come_11 : decode cX0_come 11 = .ok (.putfield 16, 3) := by decide +kernel
theorem dX0_come_14 : decode cX0_come 14 = .ok (.goto 8, 3) := by decide +kernel
theorem dX0_come_17 : decode cX0_come 17 = .ok (.aload_n 0, 1) := by decide +kernel
theorem dX0_come_18 : decode cX0_come 18 = .ok (.iconst 1, 1) := by decide +kernel
theorem dX0_come_19 : decode cX0_come 19 = .ok (.putfield 23, 3) := by decide +kernel
theorem dX0_come_22 : decode cX0_come 22 = .ok (.return_, 1) := by decide +kernel
theorem dX0_ringIfWaiting_0 : decode cX0_ringIfWaiting 0 = .ok (.aload_n 0, 1) := by decide +kernel
theorem dX0_ringIfWaiting_1 : decode cX0_ringIfWaiting 1 = .ok (.getfield 23, 3) := by decide +kernel
theorem dX0_ringIfWaiting_4 : decode cX0_ringIfWaiting 4 = .ok (.ifCond .eq 18, 3) := by decide +kernel
theorem dX0_ringIfWaiting_7 : decode cX0_ringIfWaiting 7 = .ok (.aload_n 0, 1) := by decide +kernel
theorem dX0_ringIfWaiting_8 : decode cX0_ringIfWaiting 8 = .ok (.dup, 1) := by decide +kernel
theorem dX0_ringIfWaiting_9 : decode cX0_ringIfWaiting 9 = .ok (.getfield 16, 3) := by decide +kernel
theorem dX0_ringIfWaiting_12 : decode cX0_ringIfWaiting 12 = .ok (.iconst 1, 1) := by decide +kernel
theorem dX0_ringIfWaiting_13 : decode cX0_ringIfWaiting 13 = .ok (.iadd, 1) := by decide +kernel
theorem dX0_ringIfWaiting_14 : decode cX0_ringIfWaiting 14 = .ok (.putfield 16, 3) := by decide +kernel
theorem dX0_ringIfWaiting_17 : decode cX0_ringIfWaiting 17 = .ok (.aload_n 0, 1) := by decide +kernel
theorem dX0_ringIfWaiting_18 : decode cX0_ringIfWaiting 18 = .ok (.iconst 0, 1) := by decide +kernel
theorem dX0_ringIfWaiting_19 : decode cX0_ringIfWaiting 19 = .ok (.putfield 23, 3) := by decide +kernel
theorem dX0_ringIfWaiting_22 : decode cX0_ringIfWaiting 22 = .ok (.return_, 1) := by decide +kernel
theorem dX0_tell_0 : decode cX0_tell 0 = .ok (.iload_n 1, 1) := by decide +kernel
theorem dX0_tell_1 : decode cX0_tell 1 = .ok (.lookupswitch 45 #[(0, 27), (1, 32)], 27) := by decide +kernel
theorem dX0_tell_28 : decode cX0_tell 28 = .ok (.aload_n 0, 1) := by decide +kernel
theorem dX0_tell_29 : decode cX0_tell 29 = .ok (.getfield 20, 3) := by decide +kernel
theorem dX0_tell_32 : decode cX0_tell 32 = .ok (.ireturn, 1) := by decide +kernel
theorem dX0_tell_33 : decode cX0_tell 33 = .ok (.aload_n 0, 1) := by decide +kernel
theorem dX0_tell_34 : decode cX0_tell 34 = .ok (.getfield 23, 3) := by decide +kernel
theorem dX0_tell_37 : decode cX0_tell 37 = .ok (.ifCond .eq 7, 3) := by decide +kernel
theorem dX0_tell_40 : decode cX0_tell 40 = .ok (.iconst 1, 1) := by decide +kernel
theorem dX0_tell_41 : decode cX0_tell 41 = .ok (.goto 4, 3) := by decide +kernel
theorem dX0_tell_44 : decode cX0_tell 44 = .ok (.iconst 0, 1) := by decide +kernel
theorem dX0_tell_45 : decode cX0_tell 45 = .ok (.ireturn, 1) := by decide +kernel
theorem dX0_tell_46 : decode cX0_tell 46 = .ok (.aload_n 0, 1) := by decide +kernel
theorem dX0_tell_47 : decode cX0_tell 47 = .ok (.getfield 16, 3) := by decide +kernel
theorem dX0_tell_50 : decode cX0_tell 50 = .ok (.ireturn, 1) := by decide +kernel
theorem dX1_init_0 : decode cX1_init 0 = .ok (.aload_n 0, 1) := by decide +kernel
theorem dX1_init_1 : decode cX1_init 1 = .ok (.invokespecial 3, 3) := by decide +kernel
theorem dX1_init_4 : decode cX1_init 4 = .ok (.return_, 1) := by decide +kernel
set_option maxRecDepth 20000 in
theorem ggX1_reset_X1_lose : GoodIn wsX1_reset wsX1_lose := goodIn_r _ [9, 10, 11, 12, 13, 14, 15, 16, 17, 18, 19] (by decide +kernel) (by decide +kernel)
set_option maxRecDepth 20000 in
theorem gX1_reset_X1_lose : GoodIn wsX1_reset (wsV RX1 9 RX1 yX1_lose wsX1_lose) := goodIn_app (goodIn_of _ (by decide +kernel)) ggX1_reset_X1_lose
theorem dX1_reset_0 : decode cX1_reset 0 = .ok (.aload_n 0, 1) := by decide +kernel
theorem dX1_reset_1 : decode cX1_reset 1 = .ok (.invokevirtual 9, 3) := by decide +kernel
theorem dX1_reset_4 : decode cX1_reset 4 = .ok (.aload_n 0, 1) := by decide +kernel
theorem dX1_reset_5 : decode cX1_reset 5 = .ok (.bipush 100, 2) := by decide +kernel
theorem dX1_reset_7 : decode cX1_reset 7 = .ok (.putfield 14, 3) := by decide +kernel
theorem dX1_reset_10 : decode cX1_reset 10 = .ok (.aload_n 0, 1) := by decide +kernel
theorem dX1_reset_11 : decode cX1_reset 11 = .ok (.iconst 0, 1) := by decide +kernel
theorem dX1_reset_12 : decode cX1_reset 12 = .ok (.putfield 18, 3) := by decide +kernel
theorem dX1_reset_15 : decode cX1_reset 15 = .ok (.aload_n 0, 1) := by decide +kernel
theorem dX1_reset_16 : decode cX1_reset 16 = .ok (.lconst 0, 1) := by decide +kernel
theorem dX1_reset_17 : decode cX1_reset 17 = .ok (.putfield 21, 3) := by decide +kernel
theorem dX1_reset_20 : decode cX1_reset 20 = .ok (.aload_n 0, 1) := by decide +kernel
theorem dX1_reset_21 : decode cX1_reset 21 = .ok (.lconst 0, 1) := by decide +kernel
theorem dX1_reset_22 : decode cX1_reset 22 = .ok (.putfield 25, 3) := by decide +kernel
theorem dX1_reset_25 : decode cX1_reset 25 = .ok (.return_, 1) := by decide +kernel
theorem dX1_copyFrom_0 : decode cX1_copyFrom 0 = .ok (.aload_n 0, 1) := by decide +kernel
theorem dX1_copyFrom_1 : decode cX1_copyFrom 1 = .ok (.aload_n 1, 1) := by decide +kernel
theorem dX1_copyFrom_2 : decode cX1_copyFrom 2 = .ok (.getfield 28, 3) := by decide +kernel
theorem dX1_copyFrom_5 : decode cX1_copyFrom 5 = .ok (.putfield 28, 3) := by decide +kernel
theorem dX1_copyFrom_8 : decode cX1_copyFrom 8 = .ok (.aload_n 0, 1) := by decide +kernel
theorem dX1_copyFrom_9 : decode cX1_copyFrom 9 = .ok (.aload_n 1, 1) := by decide +kernel
theorem dX1_copyFrom_10 : decode cX1_copyFrom 10 = .ok (.getfield 31, 3) := by decide +kernel
theorem dX1_copyFrom_13 : decode cX1_copyFrom 13 = .ok (.putfield 31, 3) := by decide +kernel
theorem dX1_copyFrom_16 : decode cX1_copyFrom 16 = .ok (.aload_n 0, 1) := by decide +kernel
theorem dX1_copyFrom_17 : decode cX1_copyFrom 17 = .ok (.aload_n 1, 1) := by decide +kernel
theorem dX1_copyFrom_18 : decode cX1_copyFrom 18 = .ok (.getfield 34, 3) := by decide +kernel
theorem dX1_copyFrom_21 : decode cX1_copyFrom 21 = .ok (.putfield 34, 3) := by decide +kernel
theorem dX1_copyFrom_24 : decode cX1_copyFrom 24 = .ok (.aload_n 0, 1) := by decide +kernel
theorem dX1_copyFrom_25 : decode cX1_copyFrom 25 = .ok (.aload_n 1, 1) := by decide +kernel
theorem dX1_copyFrom_26 : decode cX1_copyFrom 26 = .ok (.getfield 14, 3) := by decide +kernel
theorem dX1_copyFrom_29 : decode cX1_copyFrom 29 = .ok (.putfield 14, 3) := by decide +kernel
theorem dX1_copyFrom_32 : decode cX1_copyFrom 32 = .ok (.aload_n 0, 1) := by decide +kernel
theorem dX1_copyFrom_33 : decode cX1_copyFrom 33 = .ok (.aload_n 1, 1) := by decide +kernel
theorem dX1_copyFrom_34 : decode cX1_copyFrom 34 = .ok (.getfield 18, 3) := by decide +kernel
theorem dX1_copyFrom_37 : decode cX1_copyFrom 37 = .ok (.putfield 18, 3) := by decide +kernel
theorem dX1_copyFrom_40 : decode cX1_copyFrom 40 = .ok (.aload_n 0, 1) := by decide +kernel
theorem dX1_copyFrom_41 : decode cX1_copyFrom 41 = .ok (.aload_n 1, 1) := by decide +kernel
theorem dX1_copyFrom_42 : decode cX1_copyFrom 42 = .ok (.getfield 21, 3) := by decide +kernel
theorem dX1_copyFrom_45 : decode cX1_copyFrom 45 = .ok (.putfield 21, 3) := by decide +kernel
theorem dX1_copyFrom_48 : decode cX1_copyFrom 48 = .ok (.aload_n 0, 1) := by decide +kernel
theorem dX1_copyFrom_49 : decode cX1_copyFrom 49 = .ok (.aload_n 1, 1) := by decide +kernel
theorem dX1_copyFrom_50 : decode cX1_copyFrom 50 = .ok (.getfield 25, 3) := by decide +kernel
theorem dX1_copyFrom_53 : decode cX1_copyFrom 53 = .ok (.putfield 25, 3) := by decide +kernel
theorem dX1_copyFrom_56 : decode cX1_copyFrom 56 = .ok (.return_, 1) := by decide +kernel
theorem dX1_lose_0 : decode cX1_lose 0 = .ok (.aload_n 0, 1) := by decide +kernel
theorem dX1_lose_1 : decode cX1_lose 1 = .ok (.iconst 0, 1) := by decide +kernel
theorem dX1_lose_2 : decode cX1_lose 2 = .ok (.putfield 28, 3) := by decide +kernel
theorem dX1_lose_5 : decode cX1_lose 5 = .ok (.aload_n 0, 1) := by decide +kernel
theorem dX1_lose_6 : decode cX1_lose 6 = .ok (.iconst 0, 1) := by decide +kernel
theorem dX1_lose_7 : decode cX1_lose 7 = .ok (.putfield 31, 3) := by decide +kernel
theorem dX1_lose_10 : decode cX1_lose 10 = .ok (.aload_n 0, 1) := by decide +kernel
theorem dX1_lose_11 : decode cX1_lose 11 = .ok (.iconst 0, 1) := by decide +kernel
theorem dX1_lose_12 : decode cX1_lose 12 = .ok (.putfield 34, 3) := by decide +kernel
theorem dX1_lose_15 : decode cX1_lose 15 = .ok (.return_, 1) := by decide +kernel
theorem dX1_setTo_0 : decode cX1_setTo 0 = .ok (.aload_n 0, 1) := by decide +kernel
theorem dX1_setTo_1 : decode cX1_setTo 1 = .ok (.iload_n 1, 1) := by decide +kernel
theorem dX1_setTo_2 : decode cX1_setTo 2 = .ok (.putfield 28, 3) := by decide +kernel
theorem dX1_setTo_5 : decode cX1_setTo 5 = .ok (.aload_n 0, 1) := by decide +kernel
theorem dX1_setTo_6 : decode cX1_setTo 6 = .ok (.iconst 0, 1) := by decide +kernel
theorem dX1_setTo_7 : decode cX1_setTo 7 = .ok (.putfield 31, 3) := by decide +kernel
theorem dX1_setTo_10 : decode cX1_setTo 10 = .ok (.aload_n 0, 1) := by decide +kernel
theorem dX1_setTo_11 : decode cX1_setTo 11 = .ok (.iconst 1, 1) := by decide +kernel
theorem dX1_setTo_12 : decode cX1_setTo 12 = .ok (.putfield 34, 3) := by decide +kernel
theorem dX1_setTo_15 : decode cX1_setTo 15 = .ok (.return_, 1) := by decide +kernel
theorem dX1_minute_0 : decode cX1_minute 0 = .ok (.aload_n 0, 1) := by decide +kernel
theorem dX1_minute_1 : decode cX1_minute 1 = .ok (.getfield 28, 3) := by decide +kernel
theorem dX1_minute_4 : decode cX1_minute 4 = .ok (.bipush 60, 2) := by decide +kernel
theorem dX1_minute_6 : decode cX1_minute 6 = .ok (.idiv, 1) := by decide +kernel
theorem dX1_minute_7 : decode cX1_minute 7 = .ok (.ireturn, 1) := by decide +kernel
theorem dX1_goOn_0 : decode cX1_goOn 0 = .ok (.aload_n 0, 1) := by decide +kernel
theorem dX1_goOn_1 : decode cX1_goOn 1 = .ok (.getfield 14, 3) := by decide +kernel
theorem dX1_goOn_4 : decode cX1_goOn 4 = .ok (.aload_n 0, 1) := by decide +kernel
theorem dX1_goOn_5 : decode cX1_goOn 5 = .ok (.getfield 18, 3) := by decide +kernel
theorem dX1_goOn_8 : decode cX1_goOn 8 = .ok (.isub, 1) := by decide +kernel
theorem dX1_goOn_9 : decode cX1_goOn 9 = .ok (.bipush 60, 2) := by decide +kernel
theorem dX1_goOn_11 : decode cX1_goOn 11 = .ok (.imul, 1) := by decide +kernel
theorem dX1_goOn_12 : decode cX1_goOn 12 = .ok (.istore_n 1, 1) := by decide +kernel
theorem dX1_goOn_13 : decode cX1_goOn 13 = .ok (.aload_n 0, 1) := by decide +kernel
theorem dX1_goOn_14 : decode cX1_goOn 14 = .ok (.dup, 1) := by decide +kernel
theorem dX1_goOn_15 : decode cX1_goOn 15 = .ok (.getfield 28, 3) := by decide +kernel
theorem dX1_goOn_18 : decode cX1_goOn 18 = .ok (.bipush 60, 2) := by decide +kernel
theorem dX1_goOn_20 : decode cX1_goOn 20 = .ok (.iadd, 1) := by decide +kernel
theorem dX1_goOn_21 : decode cX1_goOn 21 = .ok (.putfield 28, 3) := by decide +kernel
theorem dX1_goOn_24 : decode cX1_goOn 24 = .ok (.aload_n 0, 1) := by decide +kernel
theorem dX1_goOn_25 : decode cX1_goOn 25 = .ok (.dup, 1) := by decide +kernel
theorem dX1_goOn_26 : decode cX1_goOn 26 = .ok (.getfield 31, 3) := by decide +kernel
theorem dX1_goOn_29 : decode cX1_goOn 29 = .ok (.iload_n 1, 1) := by decide +kernel
theorem dX1_goOn_30 : decode cX1_goOn 30 = .ok (.iadd, 1) := by decide +kernel
theorem dX1_goOn_31 : decode cX1_goOn 31 = .ok (.putfield 31, 3) := by decide +kernel
theorem dX1_goOn_34 : decode cX1_goOn 34 = .ok (.aload_n 0, 1) := by decide +kernel
theorem dX1_goOn_35 : decode cX1_goOn 35 = .ok (.dup, 1) := by decide +kernel
theorem dX1_goOn_36 : decode cX1_goOn 36 = .ok (.getfield 21, 3) := by decide +kernel
theorem dX1_goOn_39 : decode cX1_goOn 39 = .ok (.aload_n 0, 1) := by decide +kernel
theorem dX1_goOn_40 : decode cX1_goOn 40 = .ok (.getfield 18, 3) := by decide +kernel
theorem dX1_goOn_43 : decode cX1_goOn 43 = .ok (.bipush 60, 2) := by decide +kernel
theorem dX1_goOn_45 : decode cX1_goOn 45 = .ok (.imul, 1) := by decide +kernel
theorem dX1_goOn_46 : decode cX1_goOn 46 = .ok (.i2l, 1) := by decide +kernel
theorem dX1_goOn_47 : decode cX1_goOn 47 = .ok (.ladd, 1) := by decide +kernel
theorem dX1_goOn_48 : decode cX1_goOn 48 = .ok (.putfield 21, 3) := by decide +kernel
theorem dX1_goOn_51 : decode cX1_goOn 51 = .ok (.aload_n 0, 1) := by decide +kernel
theorem dX1_goOn_52 : decode cX1_goOn 52 = .ok (.dup, 1) := by decide +kernel
theorem dX1_goOn_53 : decode cX1_goOn 53 = .ok (.getfield 25, 3) := by decide +kernel
theorem dX1_goOn_56 : decode cX1_goOn 56 = .ok (.iload_n 1, 1) := by decide +kernel
theorem dX1_goOn_57 : decode cX1_goOn 57 = .ok (.i2l, 1) := by decide +kernel
theorem dX1_goOn_58 : decode cX1_goOn 58 = .ok (.ladd, 1) := by decide +kernel
theorem dX1_goOn_59 : decode cX1_goOn 59 = .ok (.putfield 25, 3) := by decide +kernel
theorem dX1_goOn_62 : decode cX1_goOn 62 = .ok (.aload_n 0, 1) := by decide +kernel
theorem dX1_goOn_63 : decode cX1_goOn 63 = .ok (.getfield 31, 3) := by decide +kernel
theorem dX1_goOn_66 : decode cX1_goOn 66 = .ok (.ldc 38, 2) := by decide +kernel
theorem dX1_goOn_68 : decode cX1_goOn 68 = .ok (.idiv, 1) := by decide +kernel
theorem dX1_goOn_69 : decode cX1_goOn 69 = .ok (.istore_n 2, 1) := by decide +kernel
theorem dX1_goOn_70 : decode cX1_goOn 70 = .ok (.aload_n 0, 1) := by decide +kernel
theorem dX1_goOn_71 : decode cX1_goOn 71 = .ok (.dup, 1) := by decide +kernel
theorem dX1_goOn_72 : decode cX1_goOn 72 = .ok (.getfield 28, 3) := by decide +kernel
theorem dX1_goOn_75 : decode cX1_goOn 75 = .ok (.iload_n 2, 1) := by decide +kernel
theorem dX1_goOn_76 : decode cX1_goOn 76 = .ok (.iadd, 1) := by decide +kernel
theorem dX1_goOn_77 : decode cX1_goOn 77 = .ok (.putfield 28, 3) := by decide +kernel
theorem dX1_goOn_80 : decode cX1_goOn 80 = .ok (.aload_n 0, 1) := by decide +kernel
theorem dX1_goOn_81 : decode cX1_goOn 81 = .ok (.dup, 1) := by decide +kernel
theorem dX1_goOn_82 : decode cX1_goOn 82 = .ok (.getfield 31, 3) := by decide +kernel
theorem dX1_goOn_85 : decode cX1_goOn 85 = .ok (.iload_n 2, 1) := by decide +kernel
theorem dX1_goOn_86 : decode cX1_goOn 86 = .ok (.ldc 38, 2) := by decide +kernel
theorem dX1_goOn_88 : decode cX1_goOn 88 = .ok (.imul, 1) := by decide +kernel
theorem dX1_goOn_89 : decode cX1_goOn 89 = .ok (.isub, 1) := by decide +kernel
theorem dX1_goOn_90 : decode cX1_goOn 90 = .ok (.putfield 31, 3) := by decide +kernel
theorem dX1_goOn_93 : decode cX1_goOn 93 = .ok (.return_, 1) := by decide +kernel
theorem dX1_winsWith_0 : decode cX1_winsWith 0 = .ok (.aload_n 0, 1) := by decide +kernel
theorem dX1_winsWith_1 : decode cX1_winsWith 1 = .ok (.getfield 31, 3) := by decide +kernel
theorem dX1_winsWith_4 : decode cX1_winsWith 4 = .ok (.iload_n 1, 1) := by decide +kernel
theorem dX1_winsWith_5 : decode cX1_winsWith 5 = .ok (.aload_n 0, 1) := by decide +kernel
theorem dX1_winsWith_6 : decode cX1_winsWith 6 = .ok (.getfield 14, 3) := by decide +kernel
theorem dX1_winsWith_9 : decode cX1_winsWith 9 = .ok (.iload_n 2, 1) := by decide +kernel
theorem dX1_winsWith_10 : decode cX1_winsWith 10 = .ok (.isub, 1) := by decide +kernel
theorem dX1_winsWith_11 : decode cX1_winsWith 11 = .ok (.imul, 1) := by decide +kernel
theorem dX1_winsWith_12 : decode cX1_winsWith 12 = .ok (.bipush 60, 2) := by decide +kernel
theorem dX1_winsWith_14 : decode cX1_winsWith 14 = .ok (.imul, 1) := by decide +kernel
theorem dX1_winsWith_15 : decode cX1_winsWith 15 = .ok (.iadd, 1) := by decide +kernel
theorem dX1_winsWith_16 : decode cX1_winsWith 16 = .ok (.ldc 38, 2) := by decide +kernel
theorem dX1_winsWith_18 : decode cX1_winsWith 18 = .ok (.idiv, 1) := by decide +kernel
theorem dX1_winsWith_19 : decode cX1_winsWith 19 = .ok (.ireturn, 1) := by decide +kernel
set_option maxRecDepth 20000 in
theorem ggX2_init_X5_init : GoodIn wsX2_init wsX5_init := goodIn_r _ [10, 11, 2, 3, 12, 13, 14, 15, 16, 17, 18, 19, 20, 21, 22, 23, 24, 25, 26, 27, 28, 29, 30, 31, 32, 33, 34, 35, 36, 37, 38, 39, 40, 41, 42, 43, 44, 45, 46, 47, 48, 49, 50, 7, 51, 52, 53, 54, 55, 56, 57, 58, 59, 60, 61, 62, 63, 64, 65, 66, 67, 68, 69, 70, 71, 72, 73, 74, 75, 76, 77, 78, 79, 80, 81, 82, 83, 84, 85, 86, 87, 88, 89, 90, 91, 92, 93, 94, 95, 96, 105, 106, 107, 108, 109, 110, 111, 99, 100, 101, 102, 103, 104, 112, 113, 114, 115, 116, 117, 118, 119, 120, 121, 122, 123, 124] (by decide +kernel) (by decide +kernel)
set_option maxRecDepth 20000 in
theorem gX2_init_X5_init : GoodIn wsX2_init (wsX5_init) := ggX2_init_X5_init
theorem dX2_init_0 : decode cX2_init 0 = .ok (.aload_n 0, 1) := by decide +kernel
theorem dX2_init_1 : decode cX2_init 1 = .ok (.invokespecial 3, 3) := by decide +kernel
theorem dX2_init_4 : decode cX2_init 4 = .ok (.aload_n 0, 1) := by decide +kernel
theorem dX2_init_5 : decode cX2_init 5 = .ok (.bipush 14, 2) := by decide +kernel
theorem dX2_init_7 : decode cX2_init 7 = .ok (.anewarray 9, 3) := by decide +kernel
theorem dX2_init_10 : decode cX2_init 10 = .ok (.putfield 11, 3) := by decide +kernel
theorem dX2_init_13 : decode cX2_init 13 = .ok (.iconst 0, 1) := by decide +kernel
theorem dX2_init_14 : decode cX2_init 14 = .ok (.istore_n 1, 1) := by decide +kernel
theorem dX2_init_15 : decode cX2_init 15 = .ok (.iload_n 1, 1) := by decide +kernel
theorem dX2_init_16 : decode cX2_init 16 = .ok (.aload_n 0, 1) := by decide +kernel
theorem dX2_init_17 : decode cX2_init 17 = .ok (.getfield 11, 3) := by decide +kernel
theorem dX2_init_20 : decode cX2_init 20 = .ok (.arraylength, 1) := by decide +kernel
theorem dX2_init_21 : decode cX2_init 21 = .ok (.if_icmp .ge 22, 3) := by decide +kernel
theorem dX2_init_24 : decode cX2_init 24 = .ok (.aload_n 0, 1) := by decide +kernel
theorem dX2_init_25 : decode cX2_init 25 = .ok (.getfield 11, 3) := by decide +kernel
theorem dX2_init_28 : decode cX2_init 28 = .ok (.iload_n 1, 1) := by decide +kernel
theorem dX2_init_29 : decode cX2_init 29 = .ok (.new 9, 3) := by decide +kernel
theorem dX2_init_32 : decode cX2_init 32 = .ok (.dup, 1) := by decide +kernel
theorem dX2_init_33 : decode cX2_init 33 = .ok (.invokespecial 17, 3) := by decide +kernel
theorem dX2_init_36 : decode cX2_init 36 = .ok (.aastore, 1) := by decide +kernel
theorem dX2_init_37 : decode cX2_init 37 = .ok (.iinc 1 1, 3) := by decide +kernel
theorem dX2_init_40 : decode cX2_init 40 = .ok (.goto (-25), 3) := by decide +kernel
theorem dX2_init_43 : decode cX2_init 43 = .ok (.return_, 1) := by decide +kernel
theorem dX2_forget_0 : decode cX2_forget 0 = .ok (.aload_n 0, 1) := by decide +kernel
theorem dX2_forget_1 : decode cX2_forget 1 = .ok (.iconst 0, 1) := by decide +kernel
theorem dX2_forget_2 : decode cX2_forget 2 = .ok (.putfield 18, 3) := by decide +kernel
theorem dX2_forget_5 : decode cX2_forget 5 = .ok (.return_, 1) := by decide +kernel
set_option maxRecDepth 20000 in
theorem ggX2_remember_X2_forgetOldest : GoodIn wsX2_remember wsX2_forgetOldest := goodIn_r _ [7, 2, 1, 65, 66] (by decide +kernel) (by decide +kernel)
set_option maxRecDepth 20000 in
theorem gX2_remember_X2_forgetOldest : GoodIn wsX2_remember (wsV RX2 22 RX2 yX2_forgetOldest wsX2_forgetOldest) := goodIn_app (goodIn_of _ (by decide +kernel)) ggX2_remember_X2_forgetOldest
set_option maxRecDepth 20000 in
theorem ggX2_remember_X5_copyFrom : GoodIn wsX2_remember wsX5_copyFrom := goodIn_r _ [12, 13, 14, 15, 16, 17, 18, 19, 20, 21, 22, 23, 24, 25, 26, 27, 28, 29, 30, 31, 32, 33, 34, 35, 36, 37, 38, 39, 40, 41, 42, 43, 44, 45, 46, 47, 48, 49, 50, 51, 52, 53, 54, 55, 56, 57, 58, 59, 60, 61, 62, 63, 64, 67, 68, 69, 70, 71, 72, 73, 74, 75, 76, 77, 78, 79, 80, 81, 82, 83, 84, 85, 86, 87, 88, 89, 90, 91, 92] (by decide +kernel) (by decide +kernel)
set_option maxRecDepth 20000 in
theorem gX2_remember_X5_copyFrom : GoodIn wsX2_remember (wsV RX2 25 RX5 yX5_copyFrom wsX5_copyFrom) := goodIn_app (goodIn_of _ (by decide +kernel)) ggX2_remember_X5_copyFrom
theorem dX2_remember_0 : decode cX2_remember 0 = .ok (.aload_n 0, 1) := by decide +kernel
theorem dX2_remember_1 : decode cX2_remember 1 = .ok (.getfield 18, 3) := by decide +kernel
theorem dX2_remember_4 : decode cX2_remember 4 = .ok (.bipush 14, 2) := by decide +kernel
theorem dX2_remember_6 : decode cX2_remember 6 = .ok (.if_icmp .lt 7, 3) := by decide +kernel
theorem dX2_remember_9 : decode cX2_remember 9 = .ok (.aload_n 0, 1) := by decide +kernel
theorem dX2_remember_10 : decode cX2_remember 10 = .ok (.invokevirtual 22, 3) := by decide +kernel
theorem dX2_remember_13 : decode cX2_remember 13 = .ok (.aload_n 0, 1) := by decide +kernel
theorem dX2_remember_14 : decode cX2_remember 14 = .ok (.getfield 11, 3) := by decide +kernel
theorem dX2_remember_17 : decode cX2_remember 17 = .ok (.aload_n 0, 1) := by decide +kernel
theorem dX2_remember_18 : decode cX2_remember 18 = .ok (.getfield 18, 3) := by decide +kernel
theorem dX2_remember_21 : decode cX2_remember 21 = .ok (.aaload, 1) := by decide +kernel
theorem dX2_remember_22 : decode cX2_remember 22 = .ok (.aload_n 1, 1) := by decide +kernel
theorem dX2_remember_23 : decode cX2_remember 23 = .ok (.invokevirtual 25, 3) := by decide +kernel
theorem dX2_remember_26 : decode cX2_remember 26 = .ok (.aload_n 0, 1) := by decide +kernel
theorem dX2_remember_27 : decode cX2_remember 27 = .ok (.dup, 1) := by decide +kernel
theorem dX2_remember_28 : decode cX2_remember 28 = .ok (.getfield 18, 3) := by decide +kernel
theorem dX2_remember_31 : decode cX2_remember 31 = .ok (.iconst 1, 1) := by decide +kernel
theorem dX2_remember_32 : decode cX2_remember 32 = .ok (.iadd, 1) := by decide +kernel
theorem dX2_remember_33 : decode cX2_remember 33 = .ok (.putfield 18, 3) := by decide +kernel
theorem dX2_remember_36 : decode cX2_remember 36 = .ok (.return_, 1) := by decide +kernel
theorem dX2_forgetOldest_0 : decode cX2_forgetOldest 0 = .ok (.aload_n 0, 1) := by decide +kernel
theorem dX2_forgetOldest_1 : decode cX2_forgetOldest 1 = .ok (.getfield 11, 3) := by decide +kernel
theorem dX2_forgetOldest_4 : decode cX2_forgetOldest 4 = .ok (.iconst 0, 1) := by decide +kernel
theorem dX2_forgetOldest_5 : decode cX2_forgetOldest 5 = .ok (.aaload, 1) := by decide +kernel
theorem dX2_forgetOldest_6 : decode cX2_forgetOldest 6 = .ok (.astore_n 1, 1) := by decide +kernel
theorem dX2_forgetOldest_7 : decode cX2_forgetOldest 7 = .ok (.iconst 1, 1) := by decide +kernel
theorem dX2_forgetOldest_8 : decode cX2_forgetOldest 8 = .ok (.istore_n 2, 1) := by decide +kernel
theorem dX2_forgetOldest_9 : decode cX2_forgetOldest 9 = .ok (.iload_n 2, 1) := by decide +kernel
theorem dX2_forgetOldest_10 : decode cX2_forgetOldest 10 = .ok (.aload_n 0, 1) := by decide +kernel
theorem dX2_forgetOldest_11 : decode cX2_forgetOldest 11 = .ok (.getfield 11, 3) := by decide +kernel
theorem dX2_forgetOldest_14 : decode cX2_forgetOldest 14 = .ok (.arraylength, 1) := by decide +kernel
theorem dX2_forgetOldest_15 : decode cX2_forgetOldest 15 = .ok (.if_icmp .ge 23, 3) := by decide +kernel
theorem dX2_forgetOldest_18 : decode cX2_forgetOldest 18 = .ok (.aload_n 0, 1) := by decide +kernel
theorem dX2_forgetOldest_19 : decode cX2_forgetOldest 19 = .ok (.getfield 11, 3) := by decide +kernel
theorem dX2_forgetOldest_22 : decode cX2_forgetOldest 22 = .ok (.iload_n 2, 1) := by decide +kernel
theorem dX2_forgetOldest_23 : decode cX2_forgetOldest 23 = .ok (.iconst 1, 1) := by decide +kernel
theorem dX2_forgetOldest_24 : decode cX2_forgetOldest 24 = .ok (.isub, 1) := by decide +kernel
theorem dX2_forgetOldest_25 : decode cX2_forgetOldest 25 = .ok (.aload_n 0, 1) := by decide +kernel
theorem dX2_forgetOldest_26 : decode cX2_forgetOldest 26 = .ok (.getfield 11, 3) := by decide +kernel
theorem dX2_forgetOldest_29 : decode cX2_forgetOldest 29 = .ok (.iload_n 2, 1) := by decide +kernel
theorem dX2_forgetOldest_30 : decode cX2_forgetOldest 30 = .ok (.aaload, 1) := by decide +kernel
theorem dX2_forgetOldest_31 : decode cX2_forgetOldest 31 = .ok (.aastore, 1) := by decide +kernel
theorem dX2_forgetOldest_32 : decode cX2_forgetOldest 32 = .ok (.iinc 2 1, 3) := by decide +kernel
theorem dX2_forgetOldest_35 : decode cX2_forgetOldest 35 = .ok (.goto (-26), 3) := by decide +kernel
theorem dX2_forgetOldest_38 : decode cX2_forgetOldest 38 = .ok (.aload_n 0, 1) := by decide +kernel
theorem dX2_forgetOldest_39 : decode cX2_forgetOldest 39 = .ok (.getfield 11, 3) := by decide +kernel
theorem dX2_forgetOldest_42 : decode cX2_forgetOldest 42 = .ok (.bipush 13, 2) := by decide +kernel
theorem dX2_forgetOldest_44 : decode cX2_forgetOldest 44 = .ok (.aload_n 1, 1) := by decide +kernel
theorem dX2_forgetOldest_45 : decode cX2_forgetOldest 45 = .ok (.aastore, 1) := by decide +kernel
theorem dX2_forgetOldest_46 : decode cX2_forgetOldest 46 = .ok (.aload_n 0, 1) := by decide +kernel
theorem dX2_forgetOldest_47 : decode cX2_forgetOldest 47 = .ok (.bipush 13, 2) := by decide +kernel
theorem dX2_forgetOldest_49 : decode cX2_forgetOldest 49 = .ok (.putfield 18, 3) := by decide +kernel
theorem dX2_forgetOldest_52 : decode cX2_forgetOldest 52 = .ok (.return_, 1) := by decide +kernel
set_option maxRecDepth 20000 in
theorem ggX2_takeBackInto_X5_copyFrom : GoodIn wsX2_takeBackInto wsX5_copyFrom := goodIn_r _ [7, 8, 9, 10, 11, 12, 13, 14, 15, 16, 17, 18, 19, 20, 21, 22, 23, 24, 25, 26, 27, 28, 29, 30, 31, 32, 33, 34, 35, 36, 37, 38, 39, 40, 41, 42, 43, 44, 45, 46, 47, 48, 49, 50, 51, 52, 53, 54, 55, 56, 57, 58, 59, 62, 63, 64, 65, 66, 67, 68, 69, 70, 71, 72, 73, 74, 75, 76, 77, 78, 79, 80, 81, 82, 83, 84, 85, 86, 87] (by decide +kernel) (by decide +kernel)
set_option maxRecDepth 20000 in
theorem gX2_takeBackInto_X5_copyFrom : GoodIn wsX2_takeBackInto (wsV RX2 25 RX5 yX5_copyFrom wsX5_copyFrom) := goodIn_app (goodIn_of _ (by decide +kernel)) ggX2_takeBackInto_X5_copyFrom
theorem dX2_takeBackInto_0 : decode cX2_takeBackInto 0 = .ok (.aload_n 0, 1) := by decide +kernel
theorem dX2_takeBackInto_1 : decode cX2_takeBackInto 1 = .ok (.dup, 1) := by decide +kernel
theorem dX2_takeBackInto_2 : decode cX2_takeBackInto 2 = .ok (.getfield 18, 3) := by decide +kernel
theorem dX2_takeBackInto_5 : decode cX2_takeBackInto 5 = .ok (.iconst 1, 1) := by decide +kernel
theorem dX2_takeBackInto_6 : decode cX2_takeBackInto 6 = .ok (.isub, 1) := by decide +kernel
theorem dX2_takeBackInto_7 : decode cX2_takeBackInto 7 = .ok (.putfield 18, 3) := by decide +kernel
theorem dX2_takeBackInto_10 : decode cX2_takeBackInto 10 = .ok (.aload_n 1, 1) := by decide +kernel
theorem dX2_takeBackInto_11 : decode cX2_takeBackInto 11 = .ok (.aload_n 0, 1) := by decide +kernel
theorem dX2_takeBackInto_12 : decode cX2_takeBackInto 12 = .ok (.getfield 11, 3) := by decide +kernel
theorem dX2_takeBackInto_15 : decode cX2_takeBackInto 15 = .ok (.aload_n 0, 1) := by decide +kernel
theorem dX2_takeBackInto_16 : decode cX2_takeBackInto 16 = .ok (.getfield 18, 3) := by decide +kernel
theorem dX2_takeBackInto_19 : decode cX2_takeBackInto 19 = .ok (.aaload, 1) := by decide +kernel
theorem dX2_takeBackInto_20 : decode cX2_takeBackInto 20 = .ok (.invokevirtual 25, 3) := by decide +kernel
theorem dX2_takeBackInto_23 : decode cX2_takeBackInto 23 = .ok (.return_, 1) := by decide +kernel
theorem dX3_fits_0 : decode cX3_fits 0 = .ok (.lload_n 1, 1) := by decide +kernel
theorem dX3_fits_1 : decode cX3_fits 1 = .ok (.lstore_n 3, 1) := by decide +kernel
theorem dX3_fits_2 : decode cX3_fits 2 = .ok (.iconst 0, 1) := by decide +kernel
theorem dX3_fits_3 : decode cX3_fits 3 = .ok (.istore 5, 2) := by decide +kernel
theorem dX3_fits_5 : decode cX3_fits 5 = .ok (.iload 5, 2) := by decide +kernel
theorem dX3_fits_7 : decode cX3_fits 7 = .ok (.iload_n 0, 1) := by decide +kernel
theorem dX3_fits_8 : decode cX3_fits 8 = .ok (.if_icmp .ge 15, 3) := by decide +kernel
theorem dX3_fits_11 : decode cX3_fits 11 = .ok (.lload_n 3, 1) := by decide +kernel
theorem dX3_fits_12 : decode cX3_fits 12 = .ok (.ldc2_w 9, 3) := by decide +kernel
theorem dX3_fits_15 : decode cX3_fits 15 = .ok (.ldiv, 1) := by decide +kernel
theorem dX3_fits_16 : decode cX3_fits 16 = .ok (.lstore_n 3, 1) := by decide +kernel
theorem dX3_fits_17 : decode cX3_fits 17 = .ok (.iinc 5 1, 3) := by decide +kernel
theorem dX3_fits_20 : decode cX3_fits 20 = .ok (.goto (-15), 3) := by decide +kernel
theorem dX3_fits_23 : decode cX3_fits 23 = .ok (.lload_n 3, 1) := by decide +kernel
theorem dX3_fits_24 : decode cX3_fits 24 = .ok (.lconst 0, 1) := by decide +kernel
theorem dX3_fits_25 : decode cX3_fits 25 = .ok (.lcmp, 1) := by decide +kernel
theorem dX3_fits_26 : decode cX3_fits 26 = .ok (.ifCond .ne 7, 3) := by decide +kernel
theorem dX3_fits_29 : decode cX3_fits 29 = .ok (.iconst 1, 1) := by decide +kernel
theorem dX3_fits_30 : decode cX3_fits 30 = .ok (.goto 4, 3) := by decide +kernel
theorem dX3_fits_33 : decode cX3_fits 33 = .ok (.iconst 0, 1) := by decide +kernel
theorem dX3_fits_34 : decode cX3_fits 34 = .ok (.ireturn, 1) := by decide +kernel
theorem dX3_command_0 : decode cX3_command 0 = .ok (.lload_n 1, 1) := by decide +kernel
theorem dX3_command_1 : decode cX3_command 1 = .ok (.lstore 4, 2) := by decide +kernel
theorem dX3_command_3 : decode cX3_command 3 = .ok (.iload_n 3, 1) := by decide +kernel
theorem dX3_command_4 : decode cX3_command 4 = .ok (.iconst 1, 1) := by decide +kernel
theorem dX3_command_5 : decode cX3_command 5 = .ok (.iadd, 1) := by decide +kernel
theorem dX3_command_6 : decode cX3_command 6 = .ok (.istore 6, 2) := by decide +kernel
theorem dX3_command_8 : decode cX3_command 8 = .ok (.iload 6, 2) := by decide +kernel
theorem dX3_command_10 : decode cX3_command 10 = .ok (.iload_n 0, 1) := by decide +kernel
theorem dX3_command_11 : decode cX3_command 11 = .ok (.if_icmp .ge 17, 3) := by decide +kernel
theorem dX3_command_14 : decode cX3_command 14 = .ok (.lload 4, 2) := by decide +kernel
theorem dX3_command_16 : decode cX3_command 16 = .ok (.ldc2_w 9, 3) := by decide +kernel
theorem dX3_command_19 : decode cX3_command 19 = .ok (.ldiv, 1) := by decide +kernel
theorem dX3_command_20 : decode cX3_command 20 = .ok (.lstore 4, 2) := by decide +kernel
theorem dX3_command_22 : decode cX3_command 22 = .ok (.iinc 6 1, 3) := by decide +kernel
theorem dX3_command_25 : decode cX3_command 25 = .ok (.goto (-17), 3) := by decide +kernel
theorem dX3_command_28 : decode cX3_command 28 = .ok (.lload 4, 2) := by decide +kernel
theorem dX3_command_30 : decode cX3_command 30 = .ok (.ldc2_w 9, 3) := by decide +kernel
theorem dX3_command_33 : decode cX3_command 33 = .ok (.lrem, 1) := by decide +kernel
theorem dX3_command_34 : decode cX3_command 34 = .ok (.l2i, 1) := by decide +kernel
theorem dX3_command_35 : decode cX3_command 35 = .ok (.ireturn, 1) := by decide +kernel
set_option maxRecDepth 20000 in
theorem ggX3_runs_X3_passes : GoodIn wsX3_runs wsX3_passes := goodIn_r _ [6, 7, 8, 9, 10, 11, 12, 13, 14, 15, 16, 17, 18, 19, 20, 21, 22, 23, 24, 25, 26, 27, 28, 29, 30, 31, 32, 33, 34, 35, 36, 37, 38, 39, 40, 41, 42, 43, 44, 45, 46, 47, 48, 49, 50, 51, 52, 53, 54, 55, 56, 57, 58, 59, 60, 61, 62, 63, 64, 65, 66, 67, 68, 69, 70, 71, 72, 73, 74, 75, 76, 77, 78, 79, 80, 81, 82, 83, 84, 85, 86, 87, 88, 89, 90, 91, 92, 93, 94, 151, 152, 153, 154, 155, 156, 157, 158, 159, 160, 161, 162, 163, 164, 165, 166, 167, 168, 169, 170, 171, 172, 173, 174, 175, 176] (by decide +kernel) (by decide +kernel)
set_option maxRecDepth 20000 in
theorem gX3_runs_X3_passes : GoodIn wsX3_runs (va_wsS RX3 11 yX3_passes wsX3_passes) := goodIn_app (goodIn_of _ (by decide +kernel)) ggX3_runs_X3_passes
set_option maxRecDepth 20000 in
theorem ggX3_runs_X3_setsLevel : GoodIn wsX3_runs wsX3_setsLevel := goodIn_r _ [97, 98, 99, 100, 10, 101, 16, 102, 18, 19, 20, 21, 22, 23, 24, 31, 32, 33, 34, 35, 36, 37, 38, 39, 40, 41, 42, 43, 44, 45, 46, 47, 48, 49, 50, 51, 52, 53, 54, 55, 56, 57, 58, 59, 60, 61, 62, 63, 64, 65, 66, 67, 68, 151, 152, 153, 154, 155, 156, 157, 158, 159, 160, 161, 162, 163, 164, 165, 166, 167, 168, 169, 170, 171, 172, 173, 174, 175, 176] (by decide +kernel) (by decide +kernel)
set_option maxRecDepth 20000 in
theorem gX3_runs_X3_setsLevel : GoodIn wsX3_runs (va_wsS RX3 17 yX3_setsLevel wsX3_setsLevel) := goodIn_app (goodIn_of _ (by decide +kernel)) ggX3_runs_X3_setsLevel
set_option maxRecDepth 20000 in
theorem ggX3_runs_X3_signed : GoodIn wsX3_runs wsX3_signed := goodIn_r _ [105] (by decide +kernel) (by decide +kernel)
set_option maxRecDepth 20000 in
theorem gX3_runs_X3_signed : GoodIn wsX3_runs (va_wsS RX3 20 yX3_signed wsX3_signed) := goodIn_app (goodIn_of _ (by decide +kernel)) ggX3_runs_X3_signed
set_option maxRecDepth 20000 in
theorem ggX3_runs_X3_corrects : GoodIn wsX3_runs wsX3_corrects := goodIn_r _ [108, 109, 110, 111, 112, 113, 10, 114, 16, 18, 19, 20, 21, 22, 23, 24, 151, 152, 153, 154, 155, 156, 170, 171, 172, 173, 174, 175, 176, 157, 158, 159, 160] (by decide +kernel) (by decide +kernel)
set_option maxRecDepth 20000 in
theorem gX3_runs_X3_corrects : GoodIn wsX3_runs (va_wsS RX3 24 yX3_corrects wsX3_corrects) := goodIn_app (goodIn_of _ (by decide +kernel)) ggX3_runs_X3_corrects
set_option maxRecDepth 20000 in
theorem ggX3_runs_X3_writes : GoodIn wsX3_runs wsX3_writes := goodIn_r _ [117, 2, 111, 112, 113, 10, 114, 16, 18, 19, 20, 21, 22, 23, 24, 151, 152, 153, 154, 155, 156, 157, 158, 159, 160] (by decide +kernel) (by decide +kernel)
set_option maxRecDepth 20000 in
theorem gX3_runs_X3_writes : GoodIn wsX3_runs (va_wsS RX3 27 yX3_writes wsX3_writes) := goodIn_app (goodIn_of _ (by decide +kernel)) ggX3_runs_X3_writes
set_option maxRecDepth 20000 in
theorem ggX3_runs_X3_tampersAt : GoodIn wsX3_runs wsX3_tampersAt := goodIn_r _ [120, 121, 122, 123, 10, 124, 41, 125, 16, 40, 126, 18, 19, 20, 21, 22, 23, 24, 53, 54, 55, 56, 57, 127, 128, 129, 130, 131, 132, 133, 134, 135, 136, 151, 152, 153, 154, 155, 156, 161, 162, 163, 164, 165, 166, 170, 171, 172, 173, 174, 175, 176, 157, 158, 159, 160] (by decide +kernel) (by decide +kernel)
set_option maxRecDepth 20000 in
theorem gX3_runs_X3_tampersAt : GoodIn wsX3_runs (va_wsS RX3 31 yX3_tampersAt wsX3_tampersAt) := goodIn_app (goodIn_of _ (by decide +kernel)) ggX3_runs_X3_tampersAt
set_option maxRecDepth 20000 in
theorem ggX3_runs_X3_unsetsAlarm : GoodIn wsX3_runs wsX3_unsetsAlarm := goodIn_r _ [139, 140, 141, 142, 143, 144, 65, 145, 90, 67, 151, 152, 153, 154, 155, 156, 167, 168, 169] (by decide +kernel) (by decide +kernel)
set_option maxRecDepth 20000 in
theorem gX3_runs_X3_unsetsAlarm : GoodIn wsX3_runs (va_wsS RX3 34 yX3_unsetsAlarm wsX3_unsetsAlarm) := goodIn_app (goodIn_of _ (by decide +kernel)) ggX3_runs_X3_unsetsAlarm
set_option maxRecDepth 20000 in
theorem ggX3_runs_X6_domain : GoodIn wsX3_runs wsX6_domain := goodIn_r _ [22, 23, 24, 157, 158, 159, 160] (by decide +kernel) (by decide +kernel)
set_option maxRecDepth 20000 in
theorem gX3_runs_X6_domain : GoodIn wsX3_runs (wsV RX3 43 RX6 yX6_domain wsX6_domain) := goodIn_app (goodIn_of _ (by decide +kernel)) ggX3_runs_X6_domain
set_option maxRecDepth 20000 in
theorem ggX3_runs_X5_offset : GoodIn wsX3_runs wsX5_offset := goodIn_r _ [150, 40, 126, 17, 151, 152, 153, 154, 155, 156, 170, 171, 172, 173, 174, 175, 176] (by decide +kernel) (by decide +kernel)
set_option maxRecDepth 20000 in
theorem gX3_runs_X5_offset : GoodIn wsX3_runs (wsV RX3 53 RX5 yX5_offset wsX5_offset) := goodIn_app (goodIn_of _ (by decide +kernel)) ggX3_runs_X5_offset
theorem dX3_runs_0 : decode cX3_runs 0 = .ok (.iload_n 1, 1) := by decide +kernel
theorem dX3_runs_1 : decode cX3_runs 1 = .ok (.sipush 1000, 3) := by decide +kernel
theorem dX3_runs_4 : decode cX3_runs 4 = .ok (.idiv, 1) := by decide +kernel
theorem dX3_runs_5 : decode cX3_runs 5 = .ok (.bipush 10, 2) := by decide +kernel
theorem dX3_runs_7 : decode cX3_runs 7 = .ok (.irem, 1) := by decide +kernel
theorem dX3_runs_8 : decode cX3_runs 8 = .ok (.istore_n 2, 1) := by decide +kernel
theorem dX3_runs_9 : decode cX3_runs 9 = .ok (.iload_n 1, 1) := by decide +kernel
theorem dX3_runs_10 : decode cX3_runs 10 = .ok (.sipush 1000, 3) := by decide +kernel
theorem dX3_runs_13 : decode cX3_runs 13 = .ok (.irem, 1) := by decide +kernel
theorem dX3_runs_14 : decode cX3_runs 14 = .ok (.istore_n 3, 1) := by decide +kernel
theorem dX3_runs_15 : decode cX3_runs 15 = .ok (.iload_n 1, 1) := by decide +kernel
theorem dX3_runs_16 : decode cX3_runs 16 = .ok (.bipush 10, 2) := by decide +kernel
theorem dX3_runs_18 : decode cX3_runs 18 = .ok (.idiv, 1) := by decide +kernel
theorem dX3_runs_19 : decode cX3_runs 19 = .ok (.sipush 1000, 3) := by decide +kernel
theorem dX3_runs_22 : decode cX3_runs 22 = .ok (.irem, 1) := by decide +kernel
theorem dX3_runs_23 : decode cX3_runs 23 = .ok (.ifCond .ne 7, 3) := by decide +kernel
theorem dX3_runs_26 : decode cX3_runs 26 = .ok (.iconst 1, 1) := by decide +kernel
theorem dX3_runs_27 : decode cX3_runs 27 = .ok (.goto 4, 3) := by decide +kernel
theorem dX3_runs_30 : decode cX3_runs 30 = .ok (.iconst 0, 1) := by decide +kernel
theorem dX3_runs_31 : decode cX3_runs 31 = .ok (.istore 4, 2) := by decide +kernel
theorem dX3_runs_33 : decode cX3_runs 33 = .ok (.iload_n 1, 1) := by decide +kernel
theorem dX3_runs_34 : decode cX3_runs 34 = .ok (.sipush 10000, 3) := by decide +kernel
theorem dX3_runs_37 : decode cX3_runs 37 = .ok (.idiv, 1) := by decide +kernel
theorem dX3_runs_38 : decode cX3_runs 38 = .ok (.tableswitch 222 1 9 #[50, 60, 82, 105, 112, 134, 152, 177, 199], 50) := by decide +kernel
theorem dX3_runs_88 : decode cX3_runs 88 = .ok (.aload_n 0, 1) := by decide +kernel
theorem dX3_runs_89 : decode cX3_runs 89 = .ok (.iload_n 1, 1) := by decide +kernel
theorem dX3_runs_90 : decode cX3_runs 90 = .ok (.sipush 10000, 3) := by decide +kernel
theorem dX3_runs_93 : decode cX3_runs 93 = .ok (.irem, 1) := by decide +kernel
theorem dX3_runs_94 : decode cX3_runs 94 = .ok (.invokestatic 11, 3) := by decide +kernel
theorem dX3_runs_97 : decode cX3_runs 97 = .ok (.ireturn, 1) := by decide +kernel
theorem dX3_runs_98 : decode cX3_runs 98 = .ok (.iload 4, 2) := by decide +kernel
theorem dX3_runs_100 : decode cX3_runs 100 = .ok (.ifCond .eq 18, 3) := by decide +kernel
theorem dX3_runs_103 : decode cX3_runs 103 = .ok (.aload_n 0, 1) := by decide +kernel
theorem dX3_runs_104 : decode cX3_runs 104 = .ok (.iload_n 1, 1) := by decide +kernel
theorem dX3_runs_105 : decode cX3_runs 105 = .ok (.bipush 10, 2) := by decide +kernel
theorem dX3_runs_107 : decode cX3_runs 107 = .ok (.irem, 1) := by decide +kernel
theorem dX3_runs_108 : decode cX3_runs 108 = .ok (.invokestatic 17, 3) := by decide +kernel
theorem dX3_runs_111 : decode cX3_runs 111 = .ok (.ifCond .eq 7, 3) := by decide +kernel
theorem dX3_runs_114 : decode cX3_runs 114 = .ok (.iconst 1, 1) := by decide +kernel
theorem dX3_runs_115 : decode cX3_runs 115 = .ok (.goto 4, 3) := by decide +kernel
theorem dX3_runs_118 : decode cX3_runs 118 = .ok (.iconst 0, 1) := by decide +kernel
theorem dX3_runs_119 : decode cX3_runs 119 = .ok (.ireturn, 1) := by decide +kernel
theorem dX3_runs_120 : decode cX3_runs 120 = .ok (.iload_n 2, 1) := by decide +kernel
theorem dX3_runs_121 : decode cX3_runs 121 = .ok (.iconst 1, 1) := by decide +kernel
theorem dX3_runs_122 : decode cX3_runs 122 = .ok (.if_icmp .gt 19, 3) := by decide +kernel
theorem dX3_runs_125 : decode cX3_runs 125 = .ok (.aload_n 0, 1) := by decide +kernel
theorem dX3_runs_126 : decode cX3_runs 126 = .ok (.iload_n 2, 1) := by decide +kernel
theorem dX3_runs_127 : decode cX3_runs 127 = .ok (.iload_n 3, 1) := by decide +kernel
theorem dX3_runs_128 : decode cX3_runs 128 = .ok (.invokestatic 20, 3) := by decide +kernel
theorem dX3_runs_131 : decode cX3_runs 131 = .ok (.invokestatic 24, 3) := by decide +kernel
theorem dX3_runs_134 : decode cX3_runs 134 = .ok (.ifCond .eq 7, 3) := by decide +kernel
theorem dX3_runs_137 : decode cX3_runs 137 = .ok (.iconst 1, 1) := by decide +kernel
theorem dX3_runs_138 : decode cX3_runs 138 = .ok (.goto 4, 3) := by decide +kernel
theorem dX3_runs_141 : decode cX3_runs 141 = .ok (.iconst 0, 1) := by decide +kernel
theorem dX3_runs_142 : decode cX3_runs 142 = .ok (.ireturn, 1) := by decide +kernel
theorem dX3_runs_143 : decode cX3_runs 143 = .ok (.aload_n 0, 1) := by decide +kernel
theorem dX3_runs_144 : decode cX3_runs 144 = .ok (.iload_n 2, 1) := by decide +kernel
theorem dX3_runs_145 : decode cX3_runs 145 = .ok (.iload_n 3, 1) := by decide +kernel
theorem dX3_runs_146 : decode cX3_runs 146 = .ok (.invokestatic 27, 3) := by decide +kernel
theorem dX3_runs_149 : decode cX3_runs 149 = .ok (.ireturn, 1) := by decide +kernel
theorem dX3_runs_150 : decode cX3_runs 150 = .ok (.iload 4, 2) := by decide +kernel
theorem dX3_runs_152 : decode cX3_runs 152 = .ok (.ifCond .eq 18, 3) := by decide +kernel
theorem dX3_runs_155 : decode cX3_runs 155 = .ok (.aload_n 0, 1) := by decide +kernel
theorem dX3_runs_156 : decode cX3_runs 156 = .ok (.iload_n 1, 1) := by decide +kernel
theorem dX3_runs_157 : decode cX3_runs 157 = .ok (.bipush 10, 2) := by decide +kernel
theorem dX3_runs_159 : decode cX3_runs 159 = .ok (.irem, 1) := by decide +kernel
theorem dX3_runs_160 : decode cX3_runs 160 = .ok (.invokestatic 31, 3) := by decide +kernel
theorem dX3_runs_163 : decode cX3_runs 163 = .ok (.ifCond .eq 7, 3) := by decide +kernel
theorem dX3_runs_166 : decode cX3_runs 166 = .ok (.iconst 1, 1) := by decide +kernel
theorem dX3_runs_167 : decode cX3_runs 167 = .ok (.goto 4, 3) := by decide +kernel
theorem dX3_runs_170 : decode cX3_runs 170 = .ok (.iconst 0, 1) := by decide +kernel
theorem dX3_runs_171 : decode cX3_runs 171 = .ok (.ireturn, 1) := by decide +kernel
theorem dX3_runs_172 : decode cX3_runs 172 = .ok (.iload_n 3, 1) := by decide +kernel
theorem dX3_runs_173 : decode cX3_runs 173 = .ok (.ifCond .ne 15, 3) := by decide +kernel
theorem dX3_runs_176 : decode cX3_runs 176 = .ok (.aload_n 0, 1) := by decide +kernel
theorem dX3_runs_177 : decode cX3_runs 177 = .ok (.iload_n 2, 1) := by decide +kernel
theorem dX3_runs_178 : decode cX3_runs 178 = .ok (.invokestatic 34, 3) := by decide +kernel
theorem dX3_runs_181 : decode cX3_runs 181 = .ok (.ifCond .eq 7, 3) := by decide +kernel
theorem dX3_runs_184 : decode cX3_runs 184 = .ok (.iconst 1, 1) := by decide +kernel
theorem dX3_runs_185 : decode cX3_runs 185 = .ok (.goto 4, 3) := by decide +kernel
theorem dX3_runs_188 : decode cX3_runs 188 = .ok (.iconst 0, 1) := by decide +kernel
theorem dX3_runs_189 : decode cX3_runs 189 = .ok (.ireturn, 1) := by decide +kernel
theorem dX3_runs_190 : decode cX3_runs 190 = .ok (.iload 4, 2) := by decide +kernel
theorem dX3_runs_192 : decode cX3_runs 192 = .ok (.ifCond .eq 21, 3) := by decide +kernel
theorem dX3_runs_195 : decode cX3_runs 195 = .ok (.aload_n 0, 1) := by decide +kernel
theorem dX3_runs_196 : decode cX3_runs 196 = .ok (.getfield 37, 3) := by decide +kernel
theorem dX3_runs_199 : decode cX3_runs 199 = .ok (.invokevirtual 43, 3) := by decide +kernel
theorem dX3_runs_202 : decode cX3_runs 202 = .ok (.iload_n 1, 1) := by decide +kernel
theorem dX3_runs_203 : decode cX3_runs 203 = .ok (.bipush 10, 2) := by decide +kernel
theorem dX3_runs_205 : decode cX3_runs 205 = .ok (.irem, 1) := by decide +kernel
theorem dX3_runs_206 : decode cX3_runs 206 = .ok (.if_icmp .ne 7, 3) := by decide +kernel
theorem dX3_runs_209 : decode cX3_runs 209 = .ok (.iconst 1, 1) := by decide +kernel
theorem dX3_runs_210 : decode cX3_runs 210 = .ok (.goto 4, 3) := by decide +kernel
theorem dX3_runs_213 : decode cX3_runs 213 = .ok (.iconst 0, 1) := by decide +kernel
theorem dX3_runs_214 : decode cX3_runs 214 = .ok (.ireturn, 1) := by decide +kernel
theorem dX3_runs_215 : decode cX3_runs 215 = .ok (.iload_n 2, 1) := by decide +kernel
theorem dX3_runs_216 : decode cX3_runs 216 = .ok (.bipush 8, 2) := by decide +kernel
theorem dX3_runs_218 : decode cX3_runs 218 = .ok (.if_icmp .ge 17, 3) := by decide +kernel
theorem dX3_runs_221 : decode cX3_runs 221 = .ok (.aload_n 0, 1) := by decide +kernel
theorem dX3_runs_222 : decode cX3_runs 222 = .ok (.getfield 49, 3) := by decide +kernel
theorem dX3_runs_225 : decode cX3_runs 225 = .ok (.iload_n 2, 1) := by decide +kernel
theorem dX3_runs_226 : decode cX3_runs 226 = .ok (.iaload, 1) := by decide +kernel
theorem dX3_runs_227 : decode cX3_runs 227 = .ok (.iload_n 3, 1) := by decide +kernel
theorem dX3_runs_228 : decode cX3_runs 228 = .ok (.if_icmp .ne 7, 3) := by decide +kernel
theorem dX3_runs_231 : decode cX3_runs 231 = .ok (.iconst 1, 1) := by decide +kernel
theorem dX3_runs_232 : decode cX3_runs 232 = .ok (.goto 4, 3) := by decide +kernel
theorem dX3_runs_235 : decode cX3_runs 235 = .ok (.iconst 0, 1) := by decide +kernel
theorem dX3_runs_236 : decode cX3_runs 236 = .ok (.ireturn, 1) := by decide +kernel
theorem dX3_runs_237 : decode cX3_runs 237 = .ok (.iload_n 2, 1) := by decide +kernel
theorem dX3_runs_238 : decode cX3_runs 238 = .ok (.iconst 1, 1) := by decide +kernel
theorem dX3_runs_239 : decode cX3_runs 239 = .ok (.if_icmp .gt 19, 3) := by decide +kernel
theorem dX3_runs_242 : decode cX3_runs 242 = .ok (.aload_n 0, 1) := by decide +kernel
theorem dX3_runs_243 : decode cX3_runs 243 = .ok (.invokevirtual 53, 3) := by decide +kernel
theorem dX3_runs_246 : decode cX3_runs 246 = .ok (.iload_n 2, 1) := by decide +kernel
theorem dX3_runs_247 : decode cX3_runs 247 = .ok (.iload_n 3, 1) := by decide +kernel
theorem dX3_runs_248 : decode cX3_runs 248 = .ok (.invokestatic 20, 3) := by decide +kernel
theorem dX3_runs_251 : decode cX3_runs 251 = .ok (.if_icmp .gt 7, 3) := by decide +kernel
theorem dX3_runs_254 : decode cX3_runs 254 = .ok (.iconst 1, 1) := by decide +kernel
theorem dX3_runs_255 : decode cX3_runs 255 = .ok (.goto 4, 3) := by decide +kernel
theorem dX3_runs_258 : decode cX3_runs 258 = .ok (.iconst 0, 1) := by decide +kernel
theorem dX3_runs_259 : decode cX3_runs 259 = .ok (.ireturn, 1) := by decide +kernel
theorem dX3_runs_260 : decode cX3_runs 260 = .ok (.iconst 0, 1) := by decide +kernel
theorem dX3_runs_261 : decode cX3_runs 261 = .ok (.ireturn, 1) := by decide +kernel
theorem dX3_signed_0 : decode cX3_signed 0 = .ok (.iload_n 0, 1) := by decide +kernel
theorem dX3_signed_1 : decode cX3_signed 1 = .ok (.ifCond .ne 7, 3) := by decide +kernel
theorem dX3_signed_4 : decode cX3_signed 4 = .ok (.iload_n 1, 1) := by decide +kernel
theorem dX3_signed_5 : decode cX3_signed 5 = .ok (.goto 5, 3) := by decide +kernel
theorem dX3_signed_8 : decode cX3_signed 8 = .ok (.iload_n 1, 1) := by decide +kernel
theorem dX3_signed_9 : decode cX3_signed 9 = .ok (.ineg, 1) := by decide +kernel
theorem dX3_signed_10 : decode cX3_signed 10 = .ok (.ireturn, 1) := by decide +kernel
set_option maxRecDepth 20000 in
theorem ggX3_passes_X5_passMinutes : GoodIn wsX3_passes wsX5_passMinutes := goodIn_r _ [5, 6, 7, 8, 4, 9, 10, 11, 12, 13, 14, 15, 16, 17, 18, 19, 20, 21, 22, 23, 24, 25, 26, 27, 28, 29, 30, 31, 32, 33, 34, 35, 36, 37, 38, 39, 40, 41, 42, 43, 44, 45, 46, 47, 48, 49, 50, 51, 52, 53, 54, 55, 56, 57, 58, 59, 60, 61, 62, 63, 64, 65, 66, 67, 68, 69, 70, 71, 72, 73, 74, 75, 76, 77, 78, 79, 80, 81, 82, 83, 84, 85, 86, 87, 88, 89, 90, 91, 92, 93, 94, 95, 96, 97, 98, 99, 100, 101, 102, 103, 104, 105, 106, 107, 108, 109, 110, 111, 112, 113, 114] (by decide +kernel) (by decide +kernel)
set_option maxRecDepth 20000 in
theorem gX3_passes_X5_passMinutes : GoodIn wsX3_passes (wsV RX3 56 RX5 yX5_passMinutes wsX5_passMinutes) := goodIn_app (goodIn_of _ (by decide +kernel)) ggX3_passes_X5_passMinutes
theorem dX3_passes_0 : decode cX3_passes 0 = .ok (.iload_n 1, 1) := by decide +kernel
theorem dX3_passes_1 : decode cX3_passes 1 = .ok (.iconst 1, 1) := by decide +kernel
theorem dX3_passes_2 : decode cX3_passes 2 = .ok (.if_icmp .lt 10, 3) := by decide +kernel
theorem dX3_passes_5 : decode cX3_passes 5 = .ok (.iload_n 1, 1) := by decide +kernel
theorem dX3_passes_6 : decode cX3_passes 6 = .ok (.sipush 1440, 3) := by decide +kernel
theorem dX3_passes_9 : decode cX3_passes 9 = .ok (.if_icmp .le 5, 3) := by decide +kernel
theorem dX3_passes_12 : decode cX3_passes 12 = .ok (.iconst 0, 1) := by decide +kernel
theorem dX3_passes_13 : decode cX3_passes 13 = .ok (.ireturn, 1) := by decide +kernel
theorem dX3_passes_14 : decode cX3_passes 14 = .ok (.aload_n 0, 1) := by decide +kernel
theorem dX3_passes_15 : decode cX3_passes 15 = .ok (.iload_n 1, 1) := by decide +kernel
theorem dX3_passes_16 : decode cX3_passes 16 = .ok (.invokevirtual 56, 3) := by decide +kernel
theorem dX3_passes_19 : decode cX3_passes 19 = .ok (.iconst 1, 1) := by decide +kernel
theorem dX3_passes_20 : decode cX3_passes 20 = .ok (.ireturn, 1) := by decide +kernel
set_option maxRecDepth 20000 in
theorem ggX3_setsLevel_X5_changeLevel : GoodIn wsX3_setsLevel wsX5_changeLevel := goodIn_r _ [5, 6, 7, 8, 9, 10, 11, 12, 13, 14, 15, 16, 17, 4, 18, 19, 20, 21, 22, 23, 24, 25, 26, 27, 28, 29, 30, 31, 32, 33, 34, 35, 36, 37, 38, 39, 40, 41, 42, 43, 44, 45, 46, 47, 48, 49, 50, 51, 52, 53, 54, 55, 56, 57, 58, 59, 60, 61, 62, 63, 64, 65, 66, 67, 68, 69, 70, 71, 72, 73, 74, 75, 76, 77, 78] (by decide +kernel) (by decide +kernel)
set_option maxRecDepth 20000 in
theorem gX3_setsLevel_X5_changeLevel : GoodIn wsX3_setsLevel (wsV RX3 60 RX5 yX5_changeLevel wsX5_changeLevel) := goodIn_app (goodIn_of _ (by decide +kernel)) ggX3_setsLevel_X5_changeLevel
theorem dX3_setsLevel_0 : decode cX3_setsLevel 0 = .ok (.aload_n 0, 1) := by decide +kernel
theorem dX3_setsLevel_1 : decode cX3_setsLevel 1 = .ok (.iload_n 1, 1) := by decide +kernel
theorem dX3_setsLevel_2 : decode cX3_setsLevel 2 = .ok (.invokevirtual 60, 3) := by decide +kernel
theorem dX3_setsLevel_5 : decode cX3_setsLevel 5 = .ok (.iconst 1, 1) := by decide +kernel
theorem dX3_setsLevel_6 : decode cX3_setsLevel 6 = .ok (.ireturn, 1) := by decide +kernel
set_option maxRecDepth 20000 in
theorem ggX3_corrects_X5_isWritable : GoodIn wsX3_corrects wsX5_isWritable := goodIn_r _ [7, 8, 9, 10, 11, 12, 13, 14, 15, 16, 17, 18, 19, 20, 21, 29, 30, 31, 32] (by decide +kernel) (by decide +kernel)
set_option maxRecDepth 20000 in
theorem gX3_corrects_X5_isWritable : GoodIn wsX3_corrects (wsV RX3 63 RX5 yX5_isWritable wsX5_isWritable) := goodIn_app (goodIn_of _ (by decide +kernel)) ggX3_corrects_X5_isWritable
theorem dX3_corrects_0 : decode cX3_corrects 0 = .ok (.iload_n 1, 1) := by decide +kernel
theorem dX3_corrects_1 : decode cX3_corrects 1 = .ok (.sipush (-500), 3) := by decide +kernel
theorem dX3_corrects_4 : decode cX3_corrects 4 = .ok (.if_icmp .lt 17, 3) := by decide +kernel
theorem dX3_corrects_7 : decode cX3_corrects 7 = .ok (.iload_n 1, 1) := by decide +kernel
theorem dX3_corrects_8 : decode cX3_corrects 8 = .ok (.sipush 500, 3) := by decide +kernel
theorem dX3_corrects_11 : decode cX3_corrects 11 = .ok (.if_icmp .gt 10, 3) := by decide +kernel
theorem dX3_corrects_14 : decode cX3_corrects 14 = .ok (.aload_n 0, 1) := by decide +kernel
theorem dX3_corrects_15 : decode cX3_corrects 15 = .ok (.invokevirtual 63, 3) := by decide +kernel
theorem dX3_corrects_18 : decode cX3_corrects 18 = .ok (.ifCond .ne 5, 3) := by decide +kernel
theorem dX3_corrects_21 : decode cX3_corrects 21 = .ok (.iconst 0, 1) := by decide +kernel
theorem dX3_corrects_22 : decode cX3_corrects 22 = .ok (.ireturn, 1) := by decide +kernel
theorem dX3_corrects_23 : decode cX3_corrects 23 = .ok (.aload_n 0, 1) := by decide +kernel
theorem dX3_corrects_24 : decode cX3_corrects 24 = .ok (.getfield 67, 3) := by decide +kernel
theorem dX3_corrects_27 : decode cX3_corrects 27 = .ok (.iload_n 1, 1) := by decide +kernel
theorem dX3_corrects_28 : decode cX3_corrects 28 = .ok (.putfield 71, 3) := by decide +kernel
theorem dX3_corrects_31 : decode cX3_corrects 31 = .ok (.iconst 1, 1) := by decide +kernel
theorem dX3_corrects_32 : decode cX3_corrects 32 = .ok (.ireturn, 1) := by decide +kernel
set_option maxRecDepth 20000 in
theorem ggX3_writes_X5_isWritable : GoodIn wsX3_writes wsX5_isWritable := goodIn_r _ [6, 7, 8, 9, 10, 11, 12, 13, 14, 15, 16, 17, 18, 19, 20, 21, 22, 23, 24] (by decide +kernel) (by decide +kernel)
set_option maxRecDepth 20000 in
theorem gX3_writes_X5_isWritable : GoodIn wsX3_writes (wsV RX3 63 RX5 yX5_isWritable wsX5_isWritable) := goodIn_app (goodIn_of _ (by decide +kernel)) ggX3_writes_X5_isWritable
theorem dX3_writes_0 : decode cX3_writes 0 = .ok (.iload_n 1, 1) := by decide +kernel
theorem dX3_writes_1 : decode cX3_writes 1 = .ok (.bipush 8, 2) := by decide +kernel
theorem dX3_writes_3 : decode cX3_writes 3 = .ok (.if_icmp .ge 17, 3) := by decide +kernel
theorem dX3_writes_6 : decode cX3_writes 6 = .ok (.iload_n 2, 1) := by decide +kernel
theorem dX3_writes_7 : decode cX3_writes 7 = .ok (.sipush 255, 3) := by decide +kernel
theorem dX3_writes_10 : decode cX3_writes 10 = .ok (.if_icmp .gt 10, 3) := by decide +kernel
theorem dX3_writes_13 : decode cX3_writes 13 = .ok (.aload_n 0, 1) := by decide +kernel
theorem dX3_writes_14 : decode cX3_writes 14 = .ok (.invokevirtual 63, 3) := by decide +kernel
theorem dX3_writes_17 : decode cX3_writes 17 = .ok (.ifCond .ne 5, 3) := by decide +kernel
theorem dX3_writes_20 : decode cX3_writes 20 = .ok (.iconst 0, 1) := by decide +kernel
theorem dX3_writes_21 : decode cX3_writes 21 = .ok (.ireturn, 1) := by decide +kernel
theorem dX3_writes_22 : decode cX3_writes 22 = .ok (.aload_n 0, 1) := by decide +kernel
theorem dX3_writes_23 : decode cX3_writes 23 = .ok (.getfield 49, 3) := by decide +kernel
theorem dX3_writes_26 : decode cX3_writes 26 = .ok (.iload_n 1, 1) := by decide +kernel
theorem dX3_writes_27 : decode cX3_writes 27 = .ok (.iload_n 2, 1) := by decide +kernel
theorem dX3_writes_28 : decode cX3_writes 28 = .ok (.iastore, 1) := by decide +kernel
theorem dX3_writes_29 : decode cX3_writes 29 = .ok (.iconst 1, 1) := by decide +kernel
theorem dX3_writes_30 : decode cX3_writes 30 = .ok (.ireturn, 1) := by decide +kernel
set_option maxRecDepth 20000 in
theorem ggX3_tampersAt_X5_tamperAt : GoodIn wsX3_tampersAt wsX5_tamperAt := goodIn_r _ [5, 6, 7, 8, 9, 10, 11, 12, 13, 14, 15, 16, 17, 18, 19, 20, 4, 21, 22, 23, 24, 25, 26, 27, 28, 29, 30, 31, 32, 33, 34, 35, 36, 37, 38, 39, 40, 41, 42, 43, 44, 45, 46, 47, 48, 49, 50, 51, 52, 53, 54, 55] (by decide +kernel) (by decide +kernel)
set_option maxRecDepth 20000 in
theorem gX3_tampersAt_X5_tamperAt : GoodIn wsX3_tampersAt (wsV RX3 77 RX5 yX5_tamperAt wsX5_tamperAt) := goodIn_app (goodIn_of _ (by decide +kernel)) ggX3_tampersAt_X5_tamperAt
theorem dX3_tampersAt_0 : decode cX3_tampersAt 0 = .ok (.iload_n 1, 1) := by decide +kernel
theorem dX3_tampersAt_1 : decode cX3_tampersAt 1 = .ok (.iconst 3, 1) := by decide +kernel
theorem dX3_tampersAt_2 : decode cX3_tampersAt 2 = .ok (.if_icmp .lt 5, 3) := by decide +kernel
theorem dX3_tampersAt_5 : decode cX3_tampersAt 5 = .ok (.iconst 0, 1) := by decide +kernel
theorem dX3_tampersAt_6 : decode cX3_tampersAt 6 = .ok (.ireturn, 1) := by decide +kernel
theorem dX3_tampersAt_7 : decode cX3_tampersAt 7 = .ok (.aload_n 0, 1) := by decide +kernel
theorem dX3_tampersAt_8 : decode cX3_tampersAt 8 = .ok (.iload_n 1, 1) := by decide +kernel
theorem dX3_tampersAt_9 : decode cX3_tampersAt 9 = .ok (.invokevirtual 77, 3) := by decide +kernel
theorem dX3_tampersAt_12 : decode cX3_tampersAt 12 = .ok (.iconst 1, 1) := by decide +kernel
theorem dX3_tampersAt_13 : decode cX3_tampersAt 13 = .ok (.ireturn, 1) := by decide +kernel
set_option maxRecDepth 20000 in
theorem ggX3_unsetsAlarm_X0_setTo : GoodIn wsX3_unsetsAlarm wsX0_setTo := goodIn_r _ [7, 8, 9, 16, 17, 18] (by decide +kernel) (by decide +kernel)
set_option maxRecDepth 20000 in
theorem gX3_unsetsAlarm_X0_setTo : GoodIn wsX3_unsetsAlarm (wsV RX3 85 RX0 yX0_setTo wsX0_setTo) := goodIn_app (goodIn_of _ (by decide +kernel)) ggX3_unsetsAlarm_X0_setTo
theorem dX3_unsetsAlarm_0 : decode cX3_unsetsAlarm 0 = .ok (.iload_n 1, 1) := by decide +kernel
theorem dX3_unsetsAlarm_1 : decode cX3_unsetsAlarm 1 = .ok (.iconst 4, 1) := by decide +kernel
theorem dX3_unsetsAlarm_2 : decode cX3_unsetsAlarm 2 = .ok (.if_icmp .lt 5, 3) := by decide +kernel
theorem dX3_unsetsAlarm_5 : decode cX3_unsetsAlarm 5 = .ok (.iconst 0, 1) := by decide +kernel
theorem dX3_unsetsAlarm_6 : decode cX3_unsetsAlarm 6 = .ok (.ireturn, 1) := by decide +kernel
theorem dX3_unsetsAlarm_7 : decode cX3_unsetsAlarm 7 = .ok (.aload_n 0, 1) := by decide +kernel
theorem dX3_unsetsAlarm_8 : decode cX3_unsetsAlarm 8 = .ok (.getfield 80, 3) := by decide +kernel
theorem dX3_unsetsAlarm_11 : decode cX3_unsetsAlarm 11 = .ok (.iload_n 1, 1) := by decide +kernel
theorem dX3_unsetsAlarm_12 : decode cX3_unsetsAlarm 12 = .ok (.aaload, 1) := by decide +kernel
theorem dX3_unsetsAlarm_13 : decode cX3_unsetsAlarm 13 = .ok (.ldc 84, 2) := by decide +kernel
theorem dX3_unsetsAlarm_15 : decode cX3_unsetsAlarm 15 = .ok (.invokevirtual 85, 3) := by decide +kernel
theorem dX3_unsetsAlarm_18 : decode cX3_unsetsAlarm 18 = .ok (.iconst 1, 1) := by decide +kernel
theorem dX3_unsetsAlarm_19 : decode cX3_unsetsAlarm 19 = .ok (.ireturn, 1) := by decide +kernel
set_option maxRecDepth 20000 in
theorem ggX4_init_X5_init : GoodIn wsX4_init wsX5_init := goodIn_r _ [12, 13, 2, 3, 14, 15, 16, 17, 18, 19, 20, 21, 22, 23, 24, 25, 26, 27, 28, 29, 30, 31, 32, 33, 34, 35, 36, 37, 38, 39, 40, 41, 6, 42, 43, 44, 45, 46, 47, 48, 49, 50, 51, 9, 52, 53, 54, 55, 56, 57, 58, 59, 60, 61, 62, 63, 64, 65, 66, 67, 68, 69, 70, 71, 72, 73, 74, 75, 76, 77, 78, 79, 80, 81, 82, 83, 84, 85, 86, 87, 88, 89, 90, 91, 92, 93, 94, 95, 96, 97, 106, 107, 108, 109, 110, 111, 112, 100, 101, 102, 103, 104, 105, 113, 114, 115, 116, 117, 118, 119, 120, 121, 122, 123, 124, 125] (by decide +kernel) (by decide +kernel)
set_option maxRecDepth 20000 in
theorem gX4_init_X5_init : GoodIn wsX4_init (wsX5_init) := ggX4_init_X5_init
theorem dX4_init_0 : decode cX4_init 0 = .ok (.aload_n 0, 1) := by decide +kernel
theorem dX4_init_1 : decode cX4_init 1 = .ok (.invokespecial 3, 3) := by decide +kernel
theorem dX4_init_4 : decode cX4_init 4 = .ok (.aload_n 0, 1) := by decide +kernel
theorem dX4_init_5 : decode cX4_init 5 = .ok (.iconst 2, 1) := by decide +kernel
theorem dX4_init_6 : decode cX4_init 6 = .ok (.anewarray 9, 3) := by decide +kernel
theorem dX4_init_9 : decode cX4_init 9 = .ok (.putfield 11, 3) := by decide +kernel
theorem dX4_init_12 : decode cX4_init 12 = .ok (.aload_n 0, 1) := by decide +kernel
theorem dX4_init_13 : decode cX4_init 13 = .ok (.iconst 2, 1) := by decide +kernel
theorem dX4_init_14 : decode cX4_init 14 = .ok (.newarray .boolean, 2) := by decide +kernel
theorem dX4_init_16 : decode cX4_init 16 = .ok (.putfield 17, 3) := by decide +kernel
theorem dX4_init_19 : decode cX4_init 19 = .ok (.iconst 0, 1) := by decide +kernel
theorem dX4_init_20 : decode cX4_init 20 = .ok (.istore_n 1, 1) := by decide +kernel
theorem dX4_init_21 : decode cX4_init 21 = .ok (.iload_n 1, 1) := by decide +kernel
theorem dX4_init_22 : decode cX4_init 22 = .ok (.aload_n 0, 1) := by decide +kernel
theorem dX4_init_23 : decode cX4_init 23 = .ok (.getfield 11, 3) := by decide +kernel
theorem dX4_init_26 : decode cX4_init 26 = .ok (.arraylength, 1) := by decide +kernel
theorem dX4_init_27 : decode cX4_init 27 = .ok (.if_icmp .ge 22, 3) := by decide +kernel
theorem dX4_init_30 : decode cX4_init 30 = .ok (.aload_n 0, 1) := by decide +kernel
theorem dX4_init_31 : decode cX4_init 31 = .ok (.getfield 11, 3) := by decide +kernel
theorem dX4_init_34 : decode cX4_init 34 = .ok (.iload_n 1, 1) := by decide +kernel
theorem dX4_init_35 : decode cX4_init 35 = .ok (.new 9, 3) := by decide +kernel
theorem dX4_init_38 : decode cX4_init 38 = .ok (.dup, 1) := by decide +kernel
theorem dX4_init_39 : decode cX4_init 39 = .ok (.invokespecial 21, 3) := by decide +kernel
theorem dX4_init_42 : decode cX4_init 42 = .ok (.aastore, 1) := by decide +kernel
theorem dX4_init_43 : decode cX4_init 43 = .ok (.iinc 1 1, 3) := by decide +kernel
theorem dX4_init_46 : decode cX4_init 46 = .ok (.goto (-25), 3) := by decide +kernel
theorem dX4_init_49 : decode cX4_init 49 = .ok (.return_, 1) := by decide +kernel
theorem dX4_empty_0 : decode cX4_empty 0 = .ok (.iconst 0, 1) := by decide +kernel
theorem dX4_empty_1 : decode cX4_empty 1 = .ok (.istore_n 1, 1) := by decide +kernel
theorem dX4_empty_2 : decode cX4_empty 2 = .ok (.iload_n 1, 1) := by decide +kernel
theorem dX4_empty_3 : decode cX4_empty 3 = .ok (.aload_n 0, 1) := by decide +kernel
theorem dX4_empty_4 : decode cX4_empty 4 = .ok (.getfield 17, 3) := by decide +kernel
theorem dX4_empty_7 : decode cX4_empty 7 = .ok (.arraylength, 1) := by decide +kernel
theorem dX4_empty_8 : decode cX4_empty 8 = .ok (.if_icmp .ge 16, 3) := by decide +kernel
theorem dX4_empty_11 : decode cX4_empty 11 = .ok (.aload_n 0, 1) := by decide +kernel
theorem dX4_empty_12 : decode cX4_empty 12 = .ok (.getfield 17, 3) := by decide +kernel
theorem dX4_empty_15 : decode cX4_empty 15 = .ok (.iload_n 1, 1) := by decide +kernel
theorem dX4_empty_16 : decode cX4_empty 16 = .ok (.iconst 0, 1) := by decide +kernel
theorem dX4_empty_17 : decode cX4_empty 17 = .ok (.bastore, 1) := by decide +kernel
theorem dX4_empty_18 : decode cX4_empty 18 = .ok (.iinc 1 1, 3) := by decide +kernel
theorem dX4_empty_21 : decode cX4_empty 21 = .ok (.goto (-19), 3) := by decide +kernel
theorem dX4_empty_24 : decode cX4_empty 24 = .ok (.return_, 1) := by decide +kernel
set_option maxRecDepth 20000 in
theorem ggX5_init_X1_init : GoodIn wsX5_init wsX1_init := goodIn_r _ [23, 24, 2, 3] (by decide +kernel) (by decide +kernel)
set_option maxRecDepth 20000 in
theorem gX5_init_X1_init_n11 : GoodIn wsX5_init (wsX1_init) := ggX5_init_X1_init
set_option maxRecDepth 20000 in
theorem ggX5_init_X6_init : GoodIn wsX5_init wsX6_init := goodIn_r _ [26, 27, 2, 3, 16, 28, 103, 104, 105, 106] (by decide +kernel) (by decide +kernel)
set_option maxRecDepth 20000 in
theorem gX5_init_X6_init_n20 : GoodIn wsX5_init (wsX6_init) := ggX5_init_X6_init
set_option maxRecDepth 20000 in
theorem ggX5_init_X7_init : GoodIn wsX5_init wsX7_init := goodIn_r _ [30, 31, 2, 3, 32, 33, 16, 34, 35, 36, 107, 108, 109, 110, 111, 112] (by decide +kernel) (by decide +kernel)
set_option maxRecDepth 20000 in
theorem gX5_init_X7_init_n27 : GoodIn wsX5_init (wsX7_init) := ggX5_init_X7_init
set_option maxRecDepth 20000 in
theorem ggX5_init_X0_init : GoodIn wsX5_init wsX0_init := goodIn_r _ [38, 39, 2, 3] (by decide +kernel) (by decide +kernel)
set_option maxRecDepth 20000 in
theorem gX5_init_X0_init_n42 : GoodIn wsX5_init (wsX0_init) := ggX5_init_X0_init
set_option maxRecDepth 20000 in
theorem ggX5_init_X5_reset : GoodIn wsX5_init wsX5_reset := goodIn_r _ [44, 45, 7, 11, 15, 19, 46, 47, 48, 6, 49, 50, 51, 52, 53, 54, 55, 56, 57, 58, 59, 60, 61, 62, 63, 10, 64, 28, 65, 66, 67, 68, 69, 70, 14, 71, 33, 72, 73, 74, 75, 76, 43, 77, 17, 78, 79, 80, 21, 81, 82, 83, 84, 85, 86, 87, 88, 89, 97, 98, 99, 100, 101, 102, 90, 91, 92, 93, 94, 95, 96, 103, 104, 105, 106, 107, 108, 109, 110, 111, 112, 113, 114, 115] (by decide +kernel) (by decide +kernel)
set_option maxRecDepth 20000 in
theorem gX5_init_X5_reset : GoodIn wsX5_init (wsV RX5 43 RX5 yX5_reset wsX5_reset) := goodIn_app (goodIn_of _ (by decide +kernel)) ggX5_init_X5_reset
theorem dX5_init_0 : decode cX5_init 0 = .ok (.aload_n 0, 1) := by decide +kernel
theorem dX5_init_1 : decode cX5_init 1 = .ok (.invokespecial 3, 3) := by decide +kernel
theorem dX5_init_4 : decode cX5_init 4 = .ok (.aload_n 0, 1) := by decide +kernel
theorem dX5_init_5 : decode cX5_init 5 = .ok (.new 9, 3) := by decide +kernel
theorem dX5_init_8 : decode cX5_init 8 = .ok (.dup, 1) := by decide +kernel
theorem dX5_init_9 : decode cX5_init 9 = .ok (.invokespecial 11, 3) := by decide +kernel
theorem dX5_init_12 : decode cX5_init 12 = .ok (.putfield 12, 3) := by decide +kernel
theorem dX5_init_15 : decode cX5_init 15 = .ok (.aload_n 0, 1) := by decide +kernel
theorem dX5_init_16 : decode cX5_init 16 = .ok (.new 18, 3) := by decide +kernel
theorem dX5_init_19 : decode cX5_init 19 = .ok (.dup, 1) := by decide +kernel
theorem dX5_init_20 : decode cX5_init 20 = .ok (.invokespecial 20, 3) := by decide +kernel
theorem dX5_init_23 : decode cX5_init 23 = .ok (.putfield 21, 3) := by decide +kernel
theorem dX5_init_26 : decode cX5_init 26 = .ok (.aload_n 0, 1) := by decide +kernel
theorem dX5_init_27 : decode cX5_init 27 = .ok (.new 25, 3) := by decide +kernel
theorem dX5_init_30 : decode cX5_init 30 = .ok (.dup, 1) := by decide +kernel
theorem dX5_init_31 : decode cX5_init 31 = .ok (.invokespecial 27, 3) := by decide +kernel
theorem dX5_init_34 : decode cX5_init 34 = .ok (.putfield 28, 3) := by decide +kernel
theorem dX5_init_37 : decode cX5_init 37 = .ok (.aload_n 0, 1) := by decide +kernel
theorem dX5_init_38 : decode cX5_init 38 = .ok (.bipush 8, 2) := by decide +kernel
theorem dX5_init_40 : decode cX5_init 40 = .ok (.newarray .int, 2) := by decide +kernel
theorem dX5_init_42 : decode cX5_init 42 = .ok (.putfield 32, 3) := by decide +kernel
theorem dX5_init_45 : decode cX5_init 45 = .ok (.aload_n 0, 1) := by decide +kernel
theorem dX5_init_46 : decode cX5_init 46 = .ok (.iconst 4, 1) := by decide +kernel
theorem dX5_init_47 : decode cX5_init 47 = .ok (.anewarray 36, 3) := by decide +kernel
theorem dX5_init_50 : decode cX5_init 50 = .ok (.putfield 38, 3) := by decide +kernel
theorem dX5_init_53 : decode cX5_init 53 = .ok (.iconst 0, 1) := by decide +kernel
theorem dX5_init_54 : decode cX5_init 54 = .ok (.istore_n 1, 1) := by decide +kernel
theorem dX5_init_55 : decode cX5_init 55 = .ok (.iload_n 1, 1) := by decide +kernel
theorem dX5_init_56 : decode cX5_init 56 = .ok (.aload_n 0, 1) := by decide +kernel
theorem dX5_init_57 : decode cX5_init 57 = .ok (.getfield 38, 3) := by decide +kernel
theorem dX5_init_60 : decode cX5_init 60 = .ok (.arraylength, 1) := by decide +kernel
theorem dX5_init_61 : decode cX5_init 61 = .ok (.if_icmp .ge 22, 3) := by decide +kernel
theorem dX5_init_64 : decode cX5_init 64 = .ok (.aload_n 0, 1) := by decide +kernel
theorem dX5_init_65 : decode cX5_init 65 = .ok (.getfield 38, 3) := by decide +kernel
theorem dX5_init_68 : decode cX5_init 68 = .ok (.iload_n 1, 1) := by decide +kernel
theorem dX5_init_69 : decode cX5_init 69 = .ok (.new 36, 3) := by decide +kernel
theorem dX5_init_72 : decode cX5_init 72 = .ok (.dup, 1) := by decide +kernel
theorem dX5_init_73 : decode cX5_init 73 = .ok (.invokespecial 42, 3) := by decide +kernel
theorem dX5_init_76 : decode cX5_init 76 = .ok (.aastore, 1) := by decide +kernel
theorem dX5_init_77 : decode cX5_init 77 = .ok (.iinc 1 1, 3) := by decide +kernel
theorem dX5_init_80 : decode cX5_init 80 = .ok (.goto (-25), 3) := by decide +kernel
theorem dX5_init_83 : decode cX5_init 83 = .ok (.aload_n 0, 1) := by decide +kernel
theorem dX5_init_84 : decode cX5_init 84 = .ok (.invokevirtual 43, 3) := by decide +kernel
theorem dX5_init_87 : decode cX5_init 87 = .ok (.return_, 1) := by decide +kernel
set_option maxRecDepth 20000 in
theorem ggX5_reset_X1_reset : GoodIn wsX5_reset wsX1_reset := goodIn_r _ [10, 11, 12, 13, 14, 15, 16, 17, 9, 18, 19, 20, 21, 64, 65, 66, 67, 68, 69, 70] (by decide +kernel) (by decide +kernel)
set_option maxRecDepth 20000 in
theorem gX5_reset_X1_reset : GoodIn wsX5_reset (wsV RX5 50 RX1 yX1_reset wsX1_reset) := goodIn_app (goodIn_of _ (by decide +kernel)) ggX5_reset_X1_reset
set_option maxRecDepth 20000 in
theorem ggX5_reset_X6_reset : GoodIn wsX5_reset wsX6_reset := goodIn_r _ [26, 27, 28, 29, 30, 71, 72, 73, 74] (by decide +kernel) (by decide +kernel)
set_option maxRecDepth 20000 in
theorem gX5_reset_X6_reset : GoodIn wsX5_reset (wsV RX5 51 RX6 yX6_reset wsX6_reset) := goodIn_app (goodIn_of _ (by decide +kernel)) ggX5_reset_X6_reset
set_option maxRecDepth 20000 in
theorem ggX5_reset_X7_reset : GoodIn wsX5_reset wsX7_reset := goodIn_r _ [35, 36, 37, 38, 75, 76, 77, 78, 79, 80] (by decide +kernel) (by decide +kernel)
set_option maxRecDepth 20000 in
theorem gX5_reset_X7_reset : GoodIn wsX5_reset (wsV RX5 52 RX7 yX7_reset wsX7_reset) := goodIn_app (goodIn_of _ (by decide +kernel)) ggX5_reset_X7_reset
set_option maxRecDepth 20000 in
theorem ggX5_reset_X5_eraseRegisters : GoodIn wsX5_reset wsX5_eraseRegisters := goodIn_r _ [43, 44, 58, 59, 60, 61, 62, 63] (by decide +kernel) (by decide +kernel)
set_option maxRecDepth 20000 in
theorem gX5_reset_X5_eraseRegisters : GoodIn wsX5_reset (wsV RX5 53 RX5 yX5_eraseRegisters wsX5_eraseRegisters) := goodIn_app (goodIn_of _ (by decide +kernel)) ggX5_reset_X5_eraseRegisters
set_option maxRecDepth 20000 in
theorem ggX5_reset_X0_reset : GoodIn wsX5_reset wsX0_reset := goodIn_r _ [49, 50, 51, 52, 53, 54, 48, 55, 56, 57, 81, 82, 83] (by decide +kernel) (by decide +kernel)
set_option maxRecDepth 20000 in
theorem gX5_reset_X0_reset : GoodIn wsX5_reset (wsV RX5 56 RX0 yX0_reset wsX0_reset) := goodIn_app (goodIn_of _ (by decide +kernel)) ggX5_reset_X0_reset
theorem dX5_reset_0 : decode cX5_reset 0 = .ok (.aload_n 0, 1) := by decide +kernel
theorem dX5_reset_1 : decode cX5_reset 1 = .ok (.iconst 0, 1) := by decide +kernel
theorem dX5_reset_2 : decode cX5_reset 2 = .ok (.putfield 46, 3) := by decide +kernel
theorem dX5_reset_5 : decode cX5_reset 5 = .ok (.aload_n 0, 1) := by decide +kernel
theorem dX5_reset_6 : decode cX5_reset 6 = .ok (.getfield 12, 3) := by decide +kernel
theorem dX5_reset_9 : decode cX5_reset 9 = .ok (.invokevirtual 50, 3) := by decide +kernel
theorem dX5_reset_12 : decode cX5_reset 12 = .ok (.aload_n 0, 1) := by decide +kernel
theorem dX5_reset_13 : decode cX5_reset 13 = .ok (.getfield 21, 3) := by decide +kernel
theorem dX5_reset_16 : decode cX5_reset 16 = .ok (.invokevirtual 51, 3) := by decide +kernel
theorem dX5_reset_19 : decode cX5_reset 19 = .ok (.aload_n 0, 1) := by decide +kernel
theorem dX5_reset_20 : decode cX5_reset 20 = .ok (.getfield 28, 3) := by decide +kernel
theorem dX5_reset_23 : decode cX5_reset 23 = .ok (.invokevirtual 52, 3) := by decide +kernel
theorem dX5_reset_26 : decode cX5_reset 26 = .ok (.aload_n 0, 1) := by decide +kernel
theorem dX5_reset_27 : decode cX5_reset 27 = .ok (.invokevirtual 53, 3) := by decide +kernel
theorem dX5_reset_30 : decode cX5_reset 30 = .ok (.iconst 0, 1) := by decide +kernel
theorem dX5_reset_31 : decode cX5_reset 31 = .ok (.istore_n 1, 1) := by decide +kernel
theorem dX5_reset_32 : decode cX5_reset 32 = .ok (.iload_n 1, 1) := by decide +kernel
theorem dX5_reset_33 : decode cX5_reset 33 = .ok (.aload_n 0, 1) := by decide +kernel
theorem dX5_reset_34 : decode cX5_reset 34 = .ok (.getfield 38, 3) := by decide +kernel
theorem dX5_reset_37 : decode cX5_reset 37 = .ok (.arraylength, 1) := by decide +kernel
theorem dX5_reset_38 : decode cX5_reset 38 = .ok (.if_icmp .ge 18, 3) := by decide +kernel
theorem dX5_reset_41 : decode cX5_reset 41 = .ok (.aload_n 0, 1) := by decide +kernel
theorem dX5_reset_42 : decode cX5_reset 42 = .ok (.getfield 38, 3) := by decide +kernel
theorem dX5_reset_45 : decode cX5_reset 45 = .ok (.iload_n 1, 1) := by decide +kernel
theorem dX5_reset_46 : decode cX5_reset 46 = .ok (.aaload, 1) := by decide +kernel
theorem dX5_reset_47 : decode cX5_reset 47 = .ok (.invokevirtual 56, 3) := by decide +kernel
theorem dX5_reset_50 : decode cX5_reset 50 = .ok (.iinc 1 1, 3) := by decide +kernel
theorem dX5_reset_53 : decode cX5_reset 53 = .ok (.goto (-21), 3) := by decide +kernel
theorem dX5_reset_56 : decode cX5_reset 56 = .ok (.return_, 1) := by decide +kernel
set_option maxRecDepth 20000 in
theorem ggX5_copyFrom_X1_copyFrom : GoodIn wsX5_copyFrom wsX1_copyFrom := goodIn_r _ [15, 16, 17, 18, 19, 20, 21, 22, 59, 60, 61, 62, 63, 64, 65] (by decide +kernel) (by decide +kernel)
set_option maxRecDepth 20000 in
theorem gX5_copyFrom_X1_copyFrom : GoodIn wsX5_copyFrom (wsV RX5 57 RX1 yX1_copyFrom wsX1_copyFrom) := goodIn_app (goodIn_of _ (by decide +kernel)) ggX5_copyFrom_X1_copyFrom
set_option maxRecDepth 20000 in
theorem ggX5_copyFrom_X6_copyFrom : GoodIn wsX5_copyFrom wsX6_copyFrom := goodIn_r _ [27, 28, 29, 7, 8, 9, 30, 31, 32, 66, 67, 68, 69] (by decide +kernel) (by decide +kernel)
set_option maxRecDepth 20000 in
theorem gX5_copyFrom_X6_copyFrom : GoodIn wsX5_copyFrom (wsV RX5 61 RX6 yX6_copyFrom wsX6_copyFrom) := goodIn_app (goodIn_of _ (by decide +kernel)) ggX5_copyFrom_X6_copyFrom
set_option maxRecDepth 20000 in
theorem ggX5_copyFrom_X7_copyFrom : GoodIn wsX5_copyFrom wsX7_copyFrom := goodIn_r _ [37, 38, 39, 7, 8, 9, 40, 41, 42, 43, 44, 70, 71, 72, 73, 74, 75] (by decide +kernel) (by decide +kernel)
set_option maxRecDepth 20000 in
theorem gX5_copyFrom_X7_copyFrom : GoodIn wsX5_copyFrom (wsV RX5 64 RX7 yX7_copyFrom wsX7_copyFrom) := goodIn_app (goodIn_of _ (by decide +kernel)) ggX5_copyFrom_X7_copyFrom
set_option maxRecDepth 20000 in
theorem ggX5_copyFrom_X0_copyFrom : GoodIn wsX5_copyFrom wsX0_copyFrom := goodIn_r _ [49, 50, 51, 52, 76, 77, 78] (by decide +kernel) (by decide +kernel)
set_option maxRecDepth 20000 in
theorem gX5_copyFrom_X0_copyFrom : GoodIn wsX5_copyFrom (wsV RX5 73 RX0 yX0_copyFrom wsX0_copyFrom) := goodIn_app (goodIn_of _ (by decide +kernel)) ggX5_copyFrom_X0_copyFrom
theorem dX5_copyFrom_0 : decode cX5_copyFrom 0 = .ok (.aload_n 0, 1) := by decide +kernel
theorem dX5_copyFrom_1 : decode cX5_copyFrom 1 = .ok (.aload_n 1, 1) := by decide +kernel
theorem dX5_copyFrom_2 : decode cX5_copyFrom 2 = .ok (.getfield 46, 3) := by decide +kernel
theorem dX5_copyFrom_5 : decode cX5_copyFrom 5 = .ok (.putfield 46, 3) := by decide +kernel
theorem dX5_copyFrom_8 : decode cX5_copyFrom 8 = .ok (.aload_n 0, 1) := by decide +kernel
theorem dX5_copyFrom_9 : decode cX5_copyFrom 9 = .ok (.getfield 12, 3) := by decide +kernel
theorem dX5_copyFrom_12 : decode cX5_copyFrom 12 = .ok (.aload_n 1, 1) := by decide +kernel
theorem dX5_copyFrom_13 : decode cX5_copyFrom 13 = .ok (.getfield 12, 3) := by decide +kernel
theorem dX5_copyFrom_16 : decode cX5_copyFrom 16 = .ok (.invokevirtual 57, 3) := by decide +kernel
theorem dX5_copyFrom_19 : decode cX5_copyFrom 19 = .ok (.aload_n 0, 1) := by decide +kernel
theorem dX5_copyFrom_20 : decode cX5_copyFrom 20 = .ok (.getfield 21, 3) := by decide +kernel
theorem dX5_copyFrom_23 : decode cX5_copyFrom 23 = .ok (.aload_n 1, 1) := by decide +kernel
theorem dX5_copyFrom_24 : decode cX5_copyFrom 24 = .ok (.getfield 21, 3) := by decide +kernel
theorem dX5_copyFrom_27 : decode cX5_copyFrom 27 = .ok (.invokevirtual 61, 3) := by decide +kernel
theorem dX5_copyFrom_30 : decode cX5_copyFrom 30 = .ok (.aload_n 0, 1) := by decide +kernel
theorem dX5_copyFrom_31 : decode cX5_copyFrom 31 = .ok (.getfield 28, 3) := by decide +kernel
theorem dX5_copyFrom_34 : decode cX5_copyFrom 34 = .ok (.aload_n 1, 1) := by decide +kernel
theorem dX5_copyFrom_35 : decode cX5_copyFrom 35 = .ok (.getfield 28, 3) := by decide +kernel
theorem dX5_copyFrom_38 : decode cX5_copyFrom 38 = .ok (.invokevirtual 64, 3) := by decide +kernel
theorem dX5_copyFrom_41 : decode cX5_copyFrom 41 = .ok (.aload_n 1, 1) := by decide +kernel
theorem dX5_copyFrom_42 : decode cX5_copyFrom 42 = .ok (.getfield 32, 3) := by decide +kernel
theorem dX5_copyFrom_45 : decode cX5_copyFrom 45 = .ok (.iconst 0, 1) := by decide +kernel
theorem dX5_copyFrom_46 : decode cX5_copyFrom 46 = .ok (.aload_n 0, 1) := by decide +kernel
theorem dX5_copyFrom_47 : decode cX5_copyFrom 47 = .ok (.getfield 32, 3) := by decide +kernel
theorem dX5_copyFrom_50 : decode cX5_copyFrom 50 = .ok (.iconst 0, 1) := by decide +kernel
theorem dX5_copyFrom_51 : decode cX5_copyFrom 51 = .ok (.bipush 8, 2) := by decide +kernel
theorem dX5_copyFrom_53 : decode cX5_copyFrom 53 = .ok (.invokestatic 67, 3) := by decide +kernel
theorem dX5_copyFrom_56 : decode cX5_copyFrom 56 = .ok (.iconst 0, 1) := by decide +kernel
theorem dX5_copyFrom_57 : decode cX5_copyFrom 57 = .ok (.istore_n 2, 1) := by decide +kernel
theorem dX5_copyFrom_58 : decode cX5_copyFrom 58 = .ok (.iload_n 2, 1) := by decide +kernel
theorem dX5_copyFrom_59 : decode cX5_copyFrom 59 = .ok (.aload_n 0, 1) := by decide +kernel
theorem dX5_copyFrom_60 : decode cX5_copyFrom 60 = .ok (.getfield 38, 3) := by decide +kernel
theorem dX5_copyFrom_63 : decode cX5_copyFrom 63 = .ok (.arraylength, 1) := by decide +kernel
theorem dX5_copyFrom_64 : decode cX5_copyFrom 64 = .ok (.if_icmp .ge 24, 3) := by decide +kernel
theorem dX5_copyFrom_67 : decode cX5_copyFrom 67 = .ok (.aload_n 0, 1) := by decide +kernel
theorem dX5_copyFrom_68 : decode cX5_copyFrom 68 = .ok (.getfield 38, 3) := by decide +kernel
theorem dX5_copyFrom_71 : decode cX5_copyFrom 71 = .ok (.iload_n 2, 1) := by decide +kernel
theorem dX5_copyFrom_72 : decode cX5_copyFrom 72 = .ok (.aaload, 1) := by decide +kernel
theorem dX5_copyFrom_73 : decode cX5_copyFrom 73 = .ok (.aload_n 1, 1) := by decide +kernel
theorem dX5_copyFrom_74 : decode cX5_copyFrom 74 = .ok (.getfield 38, 3) := by decide +kernel
theorem dX5_copyFrom_77 : decode cX5_copyFrom 77 = .ok (.iload_n 2, 1) := by decide +kernel
theorem dX5_copyFrom_78 : decode cX5_copyFrom 78 = .ok (.aaload, 1) := by decide +kernel
theorem dX5_copyFrom_79 : decode cX5_copyFrom 79 = .ok (.invokevirtual 73, 3) := by decide +kernel
theorem dX5_copyFrom_82 : decode cX5_copyFrom 82 = .ok (.iinc 2 1, 3) := by decide +kernel
theorem dX5_copyFrom_85 : decode cX5_copyFrom 85 = .ok (.goto (-27), 3) := by decide +kernel
theorem dX5_copyFrom_88 : decode cX5_copyFrom 88 = .ok (.return_, 1) := by decide +kernel
set_option maxRecDepth 20000 in
theorem ggX5_isWritable_X6_domain : GoodIn wsX5_isWritable wsX6_domain := goodIn_r _ [6, 7, 8, 15, 16, 17, 18] (by decide +kernel) (by decide +kernel)
set_option maxRecDepth 20000 in
theorem gX5_isWritable_X6_domain : GoodIn wsX5_isWritable (wsV RX5 76 RX6 yX6_domain wsX6_domain) := goodIn_app (goodIn_of _ (by decide +kernel)) ggX5_isWritable_X6_domain
theorem dX5_isWritable_0 : decode cX5_isWritable 0 = .ok (.aload_n 0, 1) := by decide +kernel
theorem dX5_isWritable_1 : decode cX5_isWritable 1 = .ok (.getfield 21, 3) := by decide +kernel
theorem dX5_isWritable_4 : decode cX5_isWritable 4 = .ok (.invokevirtual 76, 3) := by decide +kernel
theorem dX5_isWritable_7 : decode cX5_isWritable 7 = .ok (.ifCond .ne 7, 3) := by decide +kernel
theorem dX5_isWritable_10 : decode cX5_isWritable 10 = .ok (.iconst 1, 1) := by decide +kernel
theorem dX5_isWritable_11 : decode cX5_isWritable 11 = .ok (.goto 4, 3) := by decide +kernel
theorem dX5_isWritable_14 : decode cX5_isWritable 14 = .ok (.iconst 0, 1) := by decide +kernel
theorem dX5_isWritable_15 : decode cX5_isWritable 15 = .ok (.ireturn, 1) := by decide +kernel
theorem dX5_offset_0 : decode cX5_offset 0 = .ok (.aload_n 0, 1) := by decide +kernel
theorem dX5_offset_1 : decode cX5_offset 1 = .ok (.getfield 12, 3) := by decide +kernel
theorem dX5_offset_4 : decode cX5_offset 4 = .ok (.getfield 80, 3) := by decide +kernel
theorem dX5_offset_7 : decode cX5_offset 7 = .ok (.bipush 60, 2) := by decide +kernel
theorem dX5_offset_9 : decode cX5_offset 9 = .ok (.aload_n 0, 1) := by decide +kernel
theorem dX5_offset_10 : decode cX5_offset 10 = .ok (.getfield 46, 3) := by decide +kernel
theorem dX5_offset_13 : decode cX5_offset 13 = .ok (.imul, 1) := by decide +kernel
theorem dX5_offset_14 : decode cX5_offset 14 = .ok (.isub, 1) := by decide +kernel
theorem dX5_offset_15 : decode cX5_offset 15 = .ok (.ireturn, 1) := by decide +kernel
set_option maxRecDepth 20000 in
theorem ggX5_passMinutes_X5_passMinute : GoodIn wsX5_passMinutes wsX5_passMinute := goodIn_r _ [5, 6, 7, 8, 9, 10, 11, 12, 13, 14, 15, 16, 17, 18, 19, 20, 21, 22, 23, 4, 24, 25, 26, 27, 28, 29, 30, 31, 32, 33, 34, 35, 36, 37, 38, 39, 40, 41, 42, 43, 44, 45, 46, 47, 48, 49, 50, 51, 52, 53, 54, 55, 56, 57, 58, 59, 60, 61, 62, 63, 64, 65, 66, 67, 68, 69, 70, 71, 72, 73, 74, 75, 76, 77, 78, 79, 80, 81, 82, 83, 84, 85, 86, 87, 88, 89, 90, 91, 92, 93, 94, 95, 96, 97, 98, 99, 100, 101, 102, 103, 104, 105, 106, 107, 108, 109, 110] (by decide +kernel) (by decide +kernel)
set_option maxRecDepth 20000 in
theorem gX5_passMinutes_X5_passMinute : GoodIn wsX5_passMinutes (wsV RX5 83 RX5 yX5_passMinute wsX5_passMinute) := goodIn_app (goodIn_of _ (by decide +kernel)) ggX5_passMinutes_X5_passMinute
theorem dX5_passMinutes_0 : decode cX5_passMinutes 0 = .ok (.iconst 0, 1) := by decide +kernel
theorem dX5_passMinutes_1 : decode cX5_passMinutes 1 = .ok (.istore_n 2, 1) := by decide +kernel
theorem dX5_passMinutes_2 : decode cX5_passMinutes 2 = .ok (.iload_n 2, 1) := by decide +kernel
theorem dX5_passMinutes_3 : decode cX5_passMinutes 3 = .ok (.iload_n 1, 1) := by decide +kernel
theorem dX5_passMinutes_4 : decode cX5_passMinutes 4 = .ok (.if_icmp .ge 13, 3) := by decide +kernel
theorem dX5_passMinutes_7 : decode cX5_passMinutes 7 = .ok (.aload_n 0, 1) := by decide +kernel
theorem dX5_passMinutes_8 : decode cX5_passMinutes 8 = .ok (.invokevirtual 83, 3) := by decide +kernel
theorem dX5_passMinutes_11 : decode cX5_passMinutes 11 = .ok (.iinc 2 1, 3) := by decide +kernel
theorem dX5_passMinutes_14 : decode cX5_passMinutes 14 = .ok (.goto (-12), 3) := by decide +kernel
theorem dX5_passMinutes_17 : decode cX5_passMinutes 17 = .ok (.return_, 1) := by decide +kernel
set_option maxRecDepth 20000 in
theorem ggX5_passMinute_X6_domain : GoodIn wsX5_passMinute wsX6_domain := goodIn_r _ [7, 8, 9, 87, 88, 89, 90] (by decide +kernel) (by decide +kernel)
set_option maxRecDepth 20000 in
theorem gX5_passMinute_X6_domain : GoodIn wsX5_passMinute (wsV RX5 76 RX6 yX6_domain wsX6_domain) := goodIn_app (goodIn_of _ (by decide +kernel)) ggX5_passMinute_X6_domain
set_option maxRecDepth 20000 in
theorem ggX5_passMinute_X6_spendMinute : GoodIn wsX5_passMinute wsX6_spendMinute := goodIn_r _ [13, 14, 9, 15, 4, 5, 6, 7, 8, 87, 88, 89, 90] (by decide +kernel) (by decide +kernel)
set_option maxRecDepth 20000 in
theorem gX5_passMinute_X6_spendMinute : GoodIn wsX5_passMinute (wsV RX5 86 RX6 yX6_spendMinute wsX6_spendMinute) := goodIn_app (goodIn_of _ (by decide +kernel)) ggX5_passMinute_X6_spendMinute
set_option maxRecDepth 20000 in
theorem ggX5_passMinute_X5_settle : GoodIn wsX5_passMinute wsX5_settle := goodIn_r _ [20, 1, 3, 4, 5, 6, 7, 8, 9, 21, 22, 23, 19, 24, 25, 26, 27, 28, 29, 30, 31, 32, 33, 34, 35, 36, 37, 38, 39, 40, 41, 42, 43, 44, 45, 46, 47, 48, 49, 50, 51, 52, 53, 54, 81, 82, 83, 84, 85, 86, 87, 88, 89, 90, 91, 92, 93, 94, 95, 96, 97, 98, 99, 100, 101, 102, 103, 104, 105, 106] (by decide +kernel) (by decide +kernel)
set_option maxRecDepth 20000 in
theorem gX5_passMinute_X5_settle : GoodIn wsX5_passMinute (wsV RX5 89 RX5 yX5_settle wsX5_settle) := goodIn_app (goodIn_of _ (by decide +kernel)) ggX5_passMinute_X5_settle
set_option maxRecDepth 20000 in
theorem ggX5_passMinute_X5_goOn : GoodIn wsX5_passMinute wsX5_goOn := goodIn_r _ [58, 26, 29, 1, 59, 60, 61, 34, 62, 36, 63, 64, 65, 66, 67, 68, 37, 69, 70, 71, 72, 73, 74, 51, 75, 76, 3, 4, 5, 6, 7, 8, 9, 77, 78, 79, 80, 54, 53, 81, 82, 83, 84, 85, 86, 100, 101, 102, 103, 104, 105, 106, 97, 98, 99, 87, 88, 89, 90] (by decide +kernel) (by decide +kernel)
set_option maxRecDepth 20000 in
theorem gX5_passMinute_X5_goOn : GoodIn wsX5_passMinute (wsV RX5 93 RX5 yX5_goOn wsX5_goOn) := goodIn_app (goodIn_of _ (by decide +kernel)) ggX5_passMinute_X5_goOn
theorem dX5_passMinute_0 : decode cX5_passMinute 0 = .ok (.aload_n 0, 1) := by decide +kernel
theorem dX5_passMinute_1 : decode cX5_passMinute 1 = .ok (.getfield 21, 3) := by decide +kernel
theorem dX5_passMinute_4 : decode cX5_passMinute 4 = .ok (.invokevirtual 76, 3) := by decide +kernel
theorem dX5_passMinute_7 : decode cX5_passMinute 7 = .ok (.istore_n 1, 1) := by decide +kernel
theorem dX5_passMinute_8 : decode cX5_passMinute 8 = .ok (.aload_n 0, 1) := by decide +kernel
theorem dX5_passMinute_9 : decode cX5_passMinute 9 = .ok (.dup, 1) := by decide +kernel
theorem dX5_passMinute_10 : decode cX5_passMinute 10 = .ok (.getfield 46, 3) := by decide +kernel
theorem dX5_passMinute_13 : decode cX5_passMinute 13 = .ok (.iconst 1, 1) := by decide +kernel
theorem dX5_passMinute_14 : decode cX5_passMinute 14 = .ok (.iadd, 1) := by decide +kernel
theorem dX5_passMinute_15 : decode cX5_passMinute 15 = .ok (.putfield 46, 3) := by decide +kernel
theorem dX5_passMinute_18 : decode cX5_passMinute 18 = .ok (.aload_n 0, 1) := by decide +kernel
theorem dX5_passMinute_19 : decode cX5_passMinute 19 = .ok (.getfield 21, 3) := by decide +kernel
theorem dX5_passMinute_22 : decode cX5_passMinute 22 = .ok (.invokevirtual 86, 3) := by decide +kernel
theorem dX5_passMinute_25 : decode cX5_passMinute 25 = .ok (.aload_n 0, 1) := by decide +kernel
theorem dX5_passMinute_26 : decode cX5_passMinute 26 = .ok (.iload_n 1, 1) := by decide +kernel
theorem dX5_passMinute_27 : decode cX5_passMinute 27 = .ok (.invokevirtual 89, 3) := by decide +kernel
theorem dX5_passMinute_30 : decode cX5_passMinute 30 = .ok (.aload_n 0, 1) := by decide +kernel
theorem dX5_passMinute_31 : decode cX5_passMinute 31 = .ok (.getfield 21, 3) := by decide +kernel
theorem dX5_passMinute_34 : decode cX5_passMinute 34 = .ok (.invokevirtual 76, 3) := by decide +kernel
theorem dX5_passMinute_37 : decode cX5_passMinute 37 = .ok (.iconst 3, 1) := by decide +kernel
theorem dX5_passMinute_38 : decode cX5_passMinute 38 = .ok (.if_icmp .eq 7, 3) := by decide +kernel
theorem dX5_passMinute_41 : decode cX5_passMinute 41 = .ok (.aload_n 0, 1) := by decide +kernel
theorem dX5_passMinute_42 : decode cX5_passMinute 42 = .ok (.invokevirtual 93, 3) := by decide +kernel
theorem dX5_passMinute_45 : decode cX5_passMinute 45 = .ok (.return_, 1) := by decide +kernel
set_option maxRecDepth 20000 in
theorem ggX5_goOn_X1_minute : GoodIn wsX5_goOn wsX1_minute := goodIn_r _ [8, 9, 45, 46, 47, 48, 49, 50, 51] (by decide +kernel) (by decide +kernel)
set_option maxRecDepth 20000 in
theorem gX5_goOn_X1_minute : GoodIn wsX5_goOn (wsV RX5 96 RX1 yX1_minute wsX1_minute) := goodIn_app (goodIn_of _ (by decide +kernel)) ggX5_goOn_X1_minute
set_option maxRecDepth 20000 in
theorem ggX5_goOn_X1_goOn : GoodIn wsX5_goOn wsX1_goOn := goodIn_r _ [13, 14, 15, 9, 16, 17, 18, 19, 45, 46, 47, 48, 49, 50, 51] (by decide +kernel) (by decide +kernel)
set_option maxRecDepth 20000 in
theorem gX5_goOn_X1_goOn : GoodIn wsX5_goOn (wsV RX5 99 RX1 yX1_goOn wsX1_goOn) := goodIn_app (goodIn_of _ (by decide +kernel)) ggX5_goOn_X1_goOn
set_option maxRecDepth 20000 in
theorem ggX5_goOn_X0_isDue : GoodIn wsX5_goOn wsX0_isDue := goodIn_r _ [24, 25, 52, 53, 54] (by decide +kernel) (by decide +kernel)
set_option maxRecDepth 20000 in
theorem gX5_goOn_X0_isDue : GoodIn wsX5_goOn (wsV RX5 100 RX0 yX0_isDue wsX0_isDue) := goodIn_app (goodIn_of _ (by decide +kernel)) ggX5_goOn_X0_isDue
set_option maxRecDepth 20000 in
theorem ggX5_goOn_X6_domain : GoodIn wsX5_goOn wsX6_domain := goodIn_r _ [30, 31, 32, 55, 56, 57, 58] (by decide +kernel) (by decide +kernel)
set_option maxRecDepth 20000 in
theorem gX5_goOn_X6_domain : GoodIn wsX5_goOn (wsV RX5 76 RX6 yX6_domain wsX6_domain) := goodIn_app (goodIn_of _ (by decide +kernel)) ggX5_goOn_X6_domain
set_option maxRecDepth 20000 in
theorem ggX5_goOn_X0_come : GoodIn wsX5_goOn wsX0_come := goodIn_r _ [36, 37, 38, 52, 53, 54] (by decide +kernel) (by decide +kernel)
set_option maxRecDepth 20000 in
theorem gX5_goOn_X0_come : GoodIn wsX5_goOn (wsV RX5 104 RX0 yX0_come wsX0_come) := goodIn_app (goodIn_of _ (by decide +kernel)) ggX5_goOn_X0_come
theorem dX5_goOn_0 : decode cX5_goOn 0 = .ok (.aload_n 0, 1) := by decide +kernel
theorem dX5_goOn_1 : decode cX5_goOn 1 = .ok (.getfield 12, 3) := by decide +kernel
theorem dX5_goOn_4 : decode cX5_goOn 4 = .ok (.invokevirtual 96, 3) := by decide +kernel
theorem dX5_goOn_7 : decode cX5_goOn 7 = .ok (.istore_n 1, 1) := by decide +kernel
theorem dX5_goOn_8 : decode cX5_goOn 8 = .ok (.aload_n 0, 1) := by decide +kernel
theorem dX5_goOn_9 : decode cX5_goOn 9 = .ok (.getfield 12, 3) := by decide +kernel
theorem dX5_goOn_12 : decode cX5_goOn 12 = .ok (.invokevirtual 99, 3) := by decide +kernel
theorem dX5_goOn_15 : decode cX5_goOn 15 = .ok (.iconst 0, 1) := by decide +kernel
theorem dX5_goOn_16 : decode cX5_goOn 16 = .ok (.istore_n 2, 1) := by decide +kernel
theorem dX5_goOn_17 : decode cX5_goOn 17 = .ok (.iload_n 2, 1) := by decide +kernel
theorem dX5_goOn_18 : decode cX5_goOn 18 = .ok (.aload_n 0, 1) := by decide +kernel
theorem dX5_goOn_19 : decode cX5_goOn 19 = .ok (.getfield 38, 3) := by decide +kernel
theorem dX5_goOn_22 : decode cX5_goOn 22 = .ok (.arraylength, 1) := by decide +kernel
theorem dX5_goOn_23 : decode cX5_goOn 23 = .ok (.if_icmp .ge 45, 3) := by decide +kernel
theorem dX5_goOn_26 : decode cX5_goOn 26 = .ok (.aload_n 0, 1) := by decide +kernel
theorem dX5_goOn_27 : decode cX5_goOn 27 = .ok (.getfield 38, 3) := by decide +kernel
theorem dX5_goOn_30 : decode cX5_goOn 30 = .ok (.iload_n 2, 1) := by decide +kernel
theorem dX5_goOn_31 : decode cX5_goOn 31 = .ok (.aaload, 1) := by decide +kernel
theorem dX5_goOn_32 : decode cX5_goOn 32 = .ok (.iload_n 1, 1) := by decide +kernel
theorem dX5_goOn_33 : decode cX5_goOn 33 = .ok (.aload_n 0, 1) := by decide +kernel
theorem dX5_goOn_34 : decode cX5_goOn 34 = .ok (.getfield 12, 3) := by decide +kernel
theorem dX5_goOn_37 : decode cX5_goOn 37 = .ok (.invokevirtual 96, 3) := by decide +kernel
theorem dX5_goOn_40 : decode cX5_goOn 40 = .ok (.invokevirtual 100, 3) := by decide +kernel
theorem dX5_goOn_43 : decode cX5_goOn 43 = .ok (.ifCond .eq 19, 3) := by decide +kernel
theorem dX5_goOn_46 : decode cX5_goOn 46 = .ok (.aload_n 0, 1) := by decide +kernel
theorem dX5_goOn_47 : decode cX5_goOn 47 = .ok (.getfield 38, 3) := by decide +kernel
theorem dX5_goOn_50 : decode cX5_goOn 50 = .ok (.iload_n 2, 1) := by decide +kernel
theorem dX5_goOn_51 : decode cX5_goOn 51 = .ok (.aaload, 1) := by decide +kernel
theorem dX5_goOn_52 : decode cX5_goOn 52 = .ok (.aload_n 0, 1) := by decide +kernel
theorem dX5_goOn_53 : decode cX5_goOn 53 = .ok (.getfield 21, 3) := by decide +kernel
theorem dX5_goOn_56 : decode cX5_goOn 56 = .ok (.invokevirtual 76, 3) := by decide +kernel
theorem dX5_goOn_59 : decode cX5_goOn 59 = .ok (.invokevirtual 104, 3) := by decide +kernel
theorem dX5_goOn_62 : decode cX5_goOn 62 = .ok (.iinc 2 1, 3) := by decide +kernel
theorem dX5_goOn_65 : decode cX5_goOn 65 = .ok (.goto (-48), 3) := by decide +kernel
theorem dX5_goOn_68 : decode cX5_goOn 68 = .ok (.return_, 1) := by decide +kernel
set_option maxRecDepth 20000 in
theorem ggX5_changeLevel_X6_domain : GoodIn wsX5_changeLevel wsX6_domain := goodIn_r _ [7, 8, 9, 55, 56, 57, 58] (by decide +kernel) (by decide +kernel)
set_option maxRecDepth 20000 in
theorem gX5_changeLevel_X6_domain : GoodIn wsX5_changeLevel (wsV RX5 76 RX6 yX6_domain wsX6_domain) := goodIn_app (goodIn_of _ (by decide +kernel)) ggX5_changeLevel_X6_domain
set_option maxRecDepth 20000 in
theorem ggX5_changeLevel_X5_settle : GoodIn wsX5_changeLevel wsX5_settle := goodIn_r _ [14, 1, 3, 4, 5, 6, 7, 8, 9, 15, 16, 17, 13, 18, 19, 20, 21, 22, 23, 24, 25, 26, 27, 28, 29, 30, 31, 32, 33, 34, 35, 36, 37, 38, 39, 40, 41, 42, 43, 44, 45, 46, 47, 48, 49, 50, 51, 52, 53, 54, 55, 56, 57, 58, 59, 60, 61, 62, 63, 64, 65, 66, 67, 68, 69, 70, 71, 72, 73, 74] (by decide +kernel) (by decide +kernel)
set_option maxRecDepth 20000 in
theorem gX5_changeLevel_X5_settle : GoodIn wsX5_changeLevel (wsV RX5 89 RX5 yX5_settle wsX5_settle) := goodIn_app (goodIn_of _ (by decide +kernel)) ggX5_changeLevel_X5_settle
theorem dX5_changeLevel_0 : decode cX5_changeLevel 0 = .ok (.aload_n 0, 1) := by decide +kernel
theorem dX5_changeLevel_1 : decode cX5_changeLevel 1 = .ok (.getfield 21, 3) := by decide +kernel
theorem dX5_changeLevel_4 : decode cX5_changeLevel 4 = .ok (.invokevirtual 76, 3) := by decide +kernel
theorem dX5_changeLevel_7 : decode cX5_changeLevel 7 = .ok (.istore_n 2, 1) := by decide +kernel
theorem dX5_changeLevel_8 : decode cX5_changeLevel 8 = .ok (.aload_n 0, 1) := by decide +kernel
theorem dX5_changeLevel_9 : decode cX5_changeLevel 9 = .ok (.getfield 21, 3) := by decide +kernel
theorem dX5_changeLevel_12 : decode cX5_changeLevel 12 = .ok (.iload_n 1, 1) := by decide +kernel
theorem dX5_changeLevel_13 : decode cX5_changeLevel 13 = .ok (.putfield 107, 3) := by decide +kernel
theorem dX5_changeLevel_16 : decode cX5_changeLevel 16 = .ok (.aload_n 0, 1) := by decide +kernel
theorem dX5_changeLevel_17 : decode cX5_changeLevel 17 = .ok (.iload_n 2, 1) := by decide +kernel
theorem dX5_changeLevel_18 : decode cX5_changeLevel 18 = .ok (.invokevirtual 89, 3) := by decide +kernel
theorem dX5_changeLevel_21 : decode cX5_changeLevel 21 = .ok (.return_, 1) := by decide +kernel
set_option maxRecDepth 20000 in
theorem ggX5_changeBattery_X6_domain : GoodIn wsX5_changeBattery wsX6_domain := goodIn_r _ [7, 8, 9, 55, 56, 57, 58] (by decide +kernel) (by decide +kernel)
set_option maxRecDepth 20000 in
theorem gX5_changeBattery_X6_domain : GoodIn wsX5_changeBattery (wsV RX5 76 RX6 yX6_domain wsX6_domain) := goodIn_app (goodIn_of _ (by decide +kernel)) ggX5_changeBattery_X6_domain
set_option maxRecDepth 20000 in
theorem ggX5_changeBattery_X5_settle : GoodIn wsX5_changeBattery wsX5_settle := goodIn_r _ [14, 1, 3, 4, 5, 6, 7, 8, 9, 15, 16, 17, 13, 18, 19, 20, 21, 22, 23, 24, 25, 26, 27, 28, 29, 30, 31, 32, 33, 34, 35, 36, 37, 38, 39, 40, 41, 42, 43, 44, 45, 46, 47, 48, 49, 50, 51, 52, 53, 54, 55, 56, 57, 58, 59, 60, 61, 62, 63, 64, 65, 66, 67, 68, 69, 70, 71, 72, 73, 74] (by decide +kernel) (by decide +kernel)
set_option maxRecDepth 20000 in
theorem gX5_changeBattery_X5_settle : GoodIn wsX5_changeBattery (wsV RX5 89 RX5 yX5_settle wsX5_settle) := goodIn_app (goodIn_of _ (by decide +kernel)) ggX5_changeBattery_X5_settle
theorem dX5_changeBattery_0 : decode cX5_changeBattery 0 = .ok (.aload_n 0, 1) := by decide +kernel
theorem dX5_changeBattery_1 : decode cX5_changeBattery 1 = .ok (.getfield 21, 3) := by decide +kernel
theorem dX5_changeBattery_4 : decode cX5_changeBattery 4 = .ok (.invokevirtual 76, 3) := by decide +kernel
theorem dX5_changeBattery_7 : decode cX5_changeBattery 7 = .ok (.istore_n 2, 1) := by decide +kernel
theorem dX5_changeBattery_8 : decode cX5_changeBattery 8 = .ok (.aload_n 0, 1) := by decide +kernel
theorem dX5_changeBattery_9 : decode cX5_changeBattery 9 = .ok (.getfield 21, 3) := by decide +kernel
theorem dX5_changeBattery_12 : decode cX5_changeBattery 12 = .ok (.iload_n 1, 1) := by decide +kernel
theorem dX5_changeBattery_13 : decode cX5_changeBattery 13 = .ok (.putfield 110, 3) := by decide +kernel
theorem dX5_changeBattery_16 : decode cX5_changeBattery 16 = .ok (.aload_n 0, 1) := by decide +kernel
theorem dX5_changeBattery_17 : decode cX5_changeBattery 17 = .ok (.iload_n 2, 1) := by decide +kernel
theorem dX5_changeBattery_18 : decode cX5_changeBattery 18 = .ok (.invokevirtual 89, 3) := by decide +kernel
theorem dX5_changeBattery_21 : decode cX5_changeBattery 21 = .ok (.return_, 1) := by decide +kernel
set_option maxRecDepth 20000 in
theorem ggX5_settle_X6_domain : GoodIn wsX5_settle wsX6_domain := goodIn_r _ [6, 7, 8, 50, 51, 52, 53] (by decide +kernel) (by decide +kernel)
set_option maxRecDepth 20000 in
theorem gX5_settle_X6_domain : GoodIn wsX5_settle (wsV RX5 76 RX6 yX6_domain wsX6_domain) := goodIn_app (goodIn_of _ (by decide +kernel)) ggX5_settle_X6_domain
set_option maxRecDepth 20000 in
theorem ggX5_settle_X5_lose : GoodIn wsX5_settle wsX5_lose := goodIn_r _ [13, 1, 14, 15, 16, 17, 18, 19, 20, 21, 22, 23, 24, 25, 26, 27, 28, 29, 30, 12, 31, 32, 44, 45, 46, 47, 48, 49, 50, 51, 52, 53, 54, 55, 56, 57, 58, 59, 60, 61, 62, 63, 64, 65, 66, 67, 68, 69] (by decide +kernel) (by decide +kernel)
set_option maxRecDepth 20000 in
theorem gX5_settle_X5_lose : GoodIn wsX5_settle (wsV RX5 113 RX5 yX5_lose wsX5_lose) := goodIn_app (goodIn_of _ (by decide +kernel)) ggX5_settle_X5_lose
set_option maxRecDepth 20000 in
theorem ggX5_settle_X5_ringWaiting : GoodIn wsX5_settle wsX5_ringWaiting := goodIn_r _ [36, 18, 37, 38, 39, 40, 41, 42, 43, 44, 45, 46, 47, 48, 49, 60, 61, 62] (by decide +kernel) (by decide +kernel)
set_option maxRecDepth 20000 in
theorem gX5_settle_X5_ringWaiting : GoodIn wsX5_settle (wsV RX5 116 RX5 yX5_ringWaiting wsX5_ringWaiting) := goodIn_app (goodIn_of _ (by decide +kernel)) ggX5_settle_X5_ringWaiting
theorem dX5_settle_0 : decode cX5_settle 0 = .ok (.aload_n 0, 1) := by decide +kernel
theorem dX5_settle_1 : decode cX5_settle 1 = .ok (.getfield 21, 3) := by decide +kernel
theorem dX5_settle_4 : decode cX5_settle 4 = .ok (.invokevirtual 76, 3) := by decide +kernel
theorem dX5_settle_7 : decode cX5_settle 7 = .ok (.istore_n 2, 1) := by decide +kernel
theorem dX5_settle_8 : decode cX5_settle 8 = .ok (.iload_n 2, 1) := by decide +kernel
theorem dX5_settle_9 : decode cX5_settle 9 = .ok (.iload_n 1, 1) := by decide +kernel
theorem dX5_settle_10 : decode cX5_settle 10 = .ok (.if_icmp .ne 4, 3) := by decide +kernel
theorem dX5_settle_13 : decode cX5_settle 13 = .ok (.return_, 1) := by decide +kernel
theorem dX5_settle_14 : decode cX5_settle 14 = .ok (.iload_n 2, 1) := by decide +kernel
theorem dX5_settle_15 : decode cX5_settle 15 = .ok (.iconst 3, 1) := by decide +kernel
theorem dX5_settle_16 : decode cX5_settle 16 = .ok (.if_icmp .ne 10, 3) := by decide +kernel
theorem dX5_settle_19 : decode cX5_settle 19 = .ok (.aload_n 0, 1) := by decide +kernel
theorem dX5_settle_20 : decode cX5_settle 20 = .ok (.invokevirtual 113, 3) := by decide +kernel
theorem dX5_settle_23 : decode cX5_settle 23 = .ok (.goto 11, 3) := by decide +kernel
theorem dX5_settle_26 : decode cX5_settle 26 = .ok (.iload_n 2, 1) := by decide +kernel
theorem dX5_settle_27 : decode cX5_settle 27 = .ok (.ifCond .ne 7, 3) := by decide +kernel
theorem dX5_settle_30 : decode cX5_settle 30 = .ok (.aload_n 0, 1) := by decide +kernel
theorem dX5_settle_31 : decode cX5_settle 31 = .ok (.invokevirtual 116, 3) := by decide +kernel
theorem dX5_settle_34 : decode cX5_settle 34 = .ok (.return_, 1) := by decide +kernel
set_option maxRecDepth 20000 in
theorem ggX5_lose_X1_lose : GoodIn wsX5_lose wsX1_lose := goodIn_r _ [12, 13, 14, 15, 41, 42, 43, 44, 45, 46, 47] (by decide +kernel) (by decide +kernel)
set_option maxRecDepth 20000 in
theorem gX5_lose_X1_lose : GoodIn wsX5_lose (wsV RX5 122 RX1 yX1_lose wsX1_lose) := goodIn_app (goodIn_of _ (by decide +kernel)) ggX5_lose_X1_lose
set_option maxRecDepth 20000 in
theorem ggX5_lose_X5_eraseRegisters : GoodIn wsX5_lose wsX5_eraseRegisters := goodIn_r _ [20, 21, 22, 23, 24, 25, 26, 27] (by decide +kernel) (by decide +kernel)
set_option maxRecDepth 20000 in
theorem gX5_lose_X5_eraseRegisters : GoodIn wsX5_lose (wsV RX5 53 RX5 yX5_eraseRegisters wsX5_eraseRegisters) := goodIn_app (goodIn_of _ (by decide +kernel)) ggX5_lose_X5_eraseRegisters
theorem dX5_lose_0 : decode cX5_lose 0 = .ok (.aload_n 0, 1) := by decide +kernel
theorem dX5_lose_1 : decode cX5_lose 1 = .ok (.getfield 21, 3) := by decide +kernel
theorem dX5_lose_4 : decode cX5_lose 4 = .ok (.dup, 1) := by decide +kernel
theorem dX5_lose_5 : decode cX5_lose 5 = .ok (.getfield 119, 3) := by decide +kernel
theorem dX5_lose_8 : decode cX5_lose 8 = .ok (.iconst 1, 1) := by decide +kernel
theorem dX5_lose_9 : decode cX5_lose 9 = .ok (.iadd, 1) := by decide +kernel
theorem dX5_lose_10 : decode cX5_lose 10 = .ok (.putfield 119, 3) := by decide +kernel
theorem dX5_lose_13 : decode cX5_lose 13 = .ok (.aload_n 0, 1) := by decide +kernel
theorem dX5_lose_14 : decode cX5_lose 14 = .ok (.getfield 12, 3) := by decide +kernel
theorem dX5_lose_17 : decode cX5_lose 17 = .ok (.invokevirtual 122, 3) := by decide +kernel
theorem dX5_lose_20 : decode cX5_lose 20 = .ok (.aload_n 0, 1) := by decide +kernel
theorem dX5_lose_21 : decode cX5_lose 21 = .ok (.invokevirtual 53, 3) := by decide +kernel
theorem dX5_lose_24 : decode cX5_lose 24 = .ok (.aload_n 0, 1) := by decide +kernel
theorem dX5_lose_25 : decode cX5_lose 25 = .ok (.getfield 28, 3) := by decide +kernel
theorem dX5_lose_28 : decode cX5_lose 28 = .ok (.iconst 0, 1) := by decide +kernel
theorem dX5_lose_29 : decode cX5_lose 29 = .ok (.putfield 123, 3) := by decide +kernel
theorem dX5_lose_32 : decode cX5_lose 32 = .ok (.iconst 0, 1) := by decide +kernel
theorem dX5_lose_33 : decode cX5_lose 33 = .ok (.istore_n 1, 1) := by decide +kernel
theorem dX5_lose_34 : decode cX5_lose 34 = .ok (.iload_n 1, 1) := by decide +kernel
theorem dX5_lose_35 : decode cX5_lose 35 = .ok (.aload_n 0, 1) := by decide +kernel
theorem dX5_lose_36 : decode cX5_lose 36 = .ok (.getfield 38, 3) := by decide +kernel
theorem dX5_lose_39 : decode cX5_lose 39 = .ok (.arraylength, 1) := by decide +kernel
theorem dX5_lose_40 : decode cX5_lose 40 = .ok (.if_icmp .ge 19, 3) := by decide +kernel
theorem dX5_lose_43 : decode cX5_lose 43 = .ok (.aload_n 0, 1) := by decide +kernel
theorem dX5_lose_44 : decode cX5_lose 44 = .ok (.getfield 38, 3) := by decide +kernel
theorem dX5_lose_47 : decode cX5_lose 47 = .ok (.iload_n 1, 1) := by decide +kernel
theorem dX5_lose_48 : decode cX5_lose 48 = .ok (.aaload, 1) := by decide +kernel
theorem dX5_lose_49 : decode cX5_lose 49 = .ok (.iconst 0, 1) := by decide +kernel
theorem dX5_lose_50 : decode cX5_lose 50 = .ok (.putfield 126, 3) := by decide +kernel
theorem dX5_lose_53 : decode cX5_lose 53 = .ok (.iinc 1 1, 3) := by decide +kernel
theorem dX5_lose_56 : decode cX5_lose 56 = .ok (.goto (-22), 3) := by decide +kernel
theorem dX5_lose_59 : decode cX5_lose 59 = .ok (.return_, 1) := by decide +kernel
set_option maxRecDepth 20000 in
theorem ggX5_ringWaiting_X0_ringIfWaiting : GoodIn wsX5_ringWaiting wsX0_ringIfWaiting := goodIn_r _ [6, 7, 8, 15, 16, 17] (by decide +kernel) (by decide +kernel)
set_option maxRecDepth 20000 in
theorem gX5_ringWaiting_X0_ringIfWaiting : GoodIn wsX5_ringWaiting (wsV RX5 130 RX0 yX0_ringIfWaiting wsX0_ringIfWaiting) := goodIn_app (goodIn_of _ (by decide +kernel)) ggX5_ringWaiting_X0_ringIfWaiting
theorem dX5_ringWaiting_0 : decode cX5_ringWaiting 0 = .ok (.iconst 0, 1) := by decide +kernel
theorem dX5_ringWaiting_1 : decode cX5_ringWaiting 1 = .ok (.istore_n 1, 1) := by decide +kernel
theorem dX5_ringWaiting_2 : decode cX5_ringWaiting 2 = .ok (.iload_n 1, 1) := by decide +kernel
theorem dX5_ringWaiting_3 : decode cX5_ringWaiting 3 = .ok (.aload_n 0, 1) := by decide +kernel
theorem dX5_ringWaiting_4 : decode cX5_ringWaiting 4 = .ok (.getfield 38, 3) := by decide +kernel
theorem dX5_ringWaiting_7 : decode cX5_ringWaiting 7 = .ok (.arraylength, 1) := by decide +kernel
theorem dX5_ringWaiting_8 : decode cX5_ringWaiting 8 = .ok (.if_icmp .ge 18, 3) := by decide +kernel
theorem dX5_ringWaiting_11 : decode cX5_ringWaiting 11 = .ok (.aload_n 0, 1) := by decide +kernel
theorem dX5_ringWaiting_12 : decode cX5_ringWaiting 12 = .ok (.getfield 38, 3) := by decide +kernel
theorem dX5_ringWaiting_15 : decode cX5_ringWaiting 15 = .ok (.iload_n 1, 1) := by decide +kernel
theorem dX5_ringWaiting_16 : decode cX5_ringWaiting 16 = .ok (.aaload, 1) := by decide +kernel
theorem dX5_ringWaiting_17 : decode cX5_ringWaiting 17 = .ok (.invokevirtual 130, 3) := by decide +kernel
theorem dX5_ringWaiting_20 : decode cX5_ringWaiting 20 = .ok (.iinc 1 1, 3) := by decide +kernel
theorem dX5_ringWaiting_23 : decode cX5_ringWaiting 23 = .ok (.goto (-21), 3) := by decide +kernel
theorem dX5_ringWaiting_26 : decode cX5_ringWaiting 26 = .ok (.return_, 1) := by decide +kernel
theorem dX5_eraseRegisters_0 : decode cX5_eraseRegisters 0 = .ok (.iconst 0, 1) := by decide +kernel
theorem dX5_eraseRegisters_1 : decode cX5_eraseRegisters 1 = .ok (.istore_n 1, 1) := by decide +kernel
theorem dX5_eraseRegisters_2 : decode cX5_eraseRegisters 2 = .ok (.iload_n 1, 1) := by decide +kernel
theorem dX5_eraseRegisters_3 : decode cX5_eraseRegisters 3 = .ok (.aload_n 0, 1) := by decide +kernel
theorem dX5_eraseRegisters_4 : decode cX5_eraseRegisters 4 = .ok (.getfield 32, 3) := by decide +kernel
theorem dX5_eraseRegisters_7 : decode cX5_eraseRegisters 7 = .ok (.arraylength, 1) := by decide +kernel
theorem dX5_eraseRegisters_8 : decode cX5_eraseRegisters 8 = .ok (.if_icmp .ge 16, 3) := by decide +kernel
theorem dX5_eraseRegisters_11 : decode cX5_eraseRegisters 11 = .ok (.aload_n 0, 1) := by decide +kernel
theorem dX5_eraseRegisters_12 : decode cX5_eraseRegisters 12 = .ok (.getfield 32, 3) := by decide +kernel
theorem dX5_eraseRegisters_15 : decode cX5_eraseRegisters 15 = .ok (.iload_n 1, 1) := by decide +kernel
theorem dX5_eraseRegisters_16 : decode cX5_eraseRegisters 16 = .ok (.iconst 0, 1) := by decide +kernel
theorem dX5_eraseRegisters_17 : decode cX5_eraseRegisters 17 = .ok (.iastore, 1) := by decide +kernel
theorem dX5_eraseRegisters_18 : decode cX5_eraseRegisters 18 = .ok (.iinc 1 1, 3) := by decide +kernel
theorem dX5_eraseRegisters_21 : decode cX5_eraseRegisters 21 = .ok (.goto (-19), 3) := by decide +kernel
theorem dX5_eraseRegisters_24 : decode cX5_eraseRegisters 24 = .ok (.return_, 1) := by decide +kernel
set_option maxRecDepth 20000 in
theorem ggX5_tamperAt_X6_domain : GoodIn wsX5_tamperAt wsX6_domain := goodIn_r _ [10, 11, 12, 48, 49, 50, 51] (by decide +kernel) (by decide +kernel)
set_option maxRecDepth 20000 in
theorem gX5_tamperAt_X6_domain : GoodIn wsX5_tamperAt (wsV RX5 76 RX6 yX6_domain wsX6_domain) := goodIn_app (goodIn_of _ (by decide +kernel)) ggX5_tamperAt_X6_domain
set_option maxRecDepth 20000 in
theorem ggX5_tamperAt_X5_eraseRegisters : GoodIn wsX5_tamperAt wsX5_eraseRegisters := goodIn_r _ [17, 18, 29, 30, 31, 32, 33, 34] (by decide +kernel) (by decide +kernel)
set_option maxRecDepth 20000 in
theorem gX5_tamperAt_X5_eraseRegisters : GoodIn wsX5_tamperAt (wsV RX5 53 RX5 yX5_eraseRegisters wsX5_eraseRegisters) := goodIn_app (goodIn_of _ (by decide +kernel)) ggX5_tamperAt_X5_eraseRegisters
set_option maxRecDepth 20000 in
theorem ggX5_tamperAt_X7_add : GoodIn wsX5_tamperAt wsX7_add := goodIn_r _ [23, 24, 25, 26, 27, 28, 35, 36, 37, 38, 39, 40] (by decide +kernel) (by decide +kernel)
set_option maxRecDepth 20000 in
theorem gX5_tamperAt_X7_add : GoodIn wsX5_tamperAt (wsV RX5 137 RX7 yX7_add wsX7_add) := goodIn_app (goodIn_of _ (by decide +kernel)) ggX5_tamperAt_X7_add
theorem dX5_tamperAt_0 : decode cX5_tamperAt 0 = .ok (.aload_n 0, 1) := by decide +kernel
theorem dX5_tamperAt_1 : decode cX5_tamperAt 1 = .ok (.getfield 28, 3) := by decide +kernel
theorem dX5_tamperAt_4 : decode cX5_tamperAt 4 = .ok (.getfield 133, 3) := by decide +kernel
theorem dX5_tamperAt_7 : decode cX5_tamperAt 7 = .ok (.iload_n 1, 1) := by decide +kernel
theorem dX5_tamperAt_8 : decode cX5_tamperAt 8 = .ok (.baload, 1) := by decide +kernel
theorem dX5_tamperAt_9 : decode cX5_tamperAt 9 = .ok (.ifCond .eq 14, 3) := by decide +kernel
theorem dX5_tamperAt_12 : decode cX5_tamperAt 12 = .ok (.aload_n 0, 1) := by decide +kernel
theorem dX5_tamperAt_13 : decode cX5_tamperAt 13 = .ok (.getfield 21, 3) := by decide +kernel
theorem dX5_tamperAt_16 : decode cX5_tamperAt 16 = .ok (.invokevirtual 76, 3) := by decide +kernel
theorem dX5_tamperAt_19 : decode cX5_tamperAt 19 = .ok (.iconst 3, 1) := by decide +kernel
theorem dX5_tamperAt_20 : decode cX5_tamperAt 20 = .ok (.if_icmp .ne 4, 3) := by decide +kernel
theorem dX5_tamperAt_23 : decode cX5_tamperAt 23 = .ok (.return_, 1) := by decide +kernel
theorem dX5_tamperAt_24 : decode cX5_tamperAt 24 = .ok (.aload_n 0, 1) := by decide +kernel
theorem dX5_tamperAt_25 : decode cX5_tamperAt 25 = .ok (.invokevirtual 53, 3) := by decide +kernel
theorem dX5_tamperAt_28 : decode cX5_tamperAt 28 = .ok (.aload_n 0, 1) := by decide +kernel
theorem dX5_tamperAt_29 : decode cX5_tamperAt 29 = .ok (.getfield 28, 3) := by decide +kernel
theorem dX5_tamperAt_32 : decode cX5_tamperAt 32 = .ok (.iload_n 1, 1) := by decide +kernel
theorem dX5_tamperAt_33 : decode cX5_tamperAt 33 = .ok (.aload_n 0, 1) := by decide +kernel
theorem dX5_tamperAt_34 : decode cX5_tamperAt 34 = .ok (.getfield 12, 3) := by decide +kernel
theorem dX5_tamperAt_37 : decode cX5_tamperAt 37 = .ok (.getfield 80, 3) := by decide +kernel
theorem dX5_tamperAt_40 : decode cX5_tamperAt 40 = .ok (.aload_n 0, 1) := by decide +kernel
theorem dX5_tamperAt_41 : decode cX5_tamperAt 41 = .ok (.getfield 21, 3) := by decide +kernel
theorem dX5_tamperAt_44 : decode cX5_tamperAt 44 = .ok (.invokevirtual 76, 3) := by decide +kernel
theorem dX5_tamperAt_47 : decode cX5_tamperAt 47 = .ok (.invokevirtual 137, 3) := by decide +kernel
theorem dX5_tamperAt_50 : decode cX5_tamperAt 50 = .ok (.return_, 1) := by decide +kernel
theorem dX5_alarmsSet_0 : decode cX5_alarmsSet 0 = .ok (.iconst 0, 1) := by decide +kernel
theorem dX5_alarmsSet_1 : decode cX5_alarmsSet 1 = .ok (.istore_n 1, 1) := by decide +kernel
theorem dX5_alarmsSet_2 : decode cX5_alarmsSet 2 = .ok (.iconst 0, 1) := by decide +kernel
theorem dX5_alarmsSet_3 : decode cX5_alarmsSet 3 = .ok (.istore_n 2, 1) := by decide +kernel
theorem dX5_alarmsSet_4 : decode cX5_alarmsSet 4 = .ok (.iload_n 2, 1) := by decide +kernel
theorem dX5_alarmsSet_5 : decode cX5_alarmsSet 5 = .ok (.aload_n 0, 1) := by decide +kernel
theorem dX5_alarmsSet_6 : decode cX5_alarmsSet 6 = .ok (.getfield 38, 3) := by decide +kernel
theorem dX5_alarmsSet_9 : decode cX5_alarmsSet 9 = .ok (.arraylength, 1) := by decide +kernel
theorem dX5_alarmsSet_10 : decode cX5_alarmsSet 10 = .ok (.if_icmp .ge 26, 3) := by decide +kernel
theorem dX5_alarmsSet_13 : decode cX5_alarmsSet 13 = .ok (.aload_n 0, 1) := by decide +kernel
theorem dX5_alarmsSet_14 : decode cX5_alarmsSet 14 = .ok (.getfield 38, 3) := by decide +kernel
theorem dX5_alarmsSet_17 : decode cX5_alarmsSet 17 = .ok (.iload_n 2, 1) := by decide +kernel
theorem dX5_alarmsSet_18 : decode cX5_alarmsSet 18 = .ok (.aaload, 1) := by decide +kernel
theorem dX5_alarmsSet_19 : decode cX5_alarmsSet 19 = .ok (.getfield 141, 3) := by decide +kernel
theorem dX5_alarmsSet_22 : decode cX5_alarmsSet 22 = .ok (.ldc 143, 2) := by decide +kernel
theorem dX5_alarmsSet_24 : decode cX5_alarmsSet 24 = .ok (.if_icmp .eq 6, 3) := by decide +kernel
theorem dX5_alarmsSet_27 : decode cX5_alarmsSet 27 = .ok (.iinc 1 1, 3) := by decide +kernel
theorem dX5_alarmsSet_30 : decode cX5_alarmsSet 30 = .ok (.iinc 2 1, 3) := by decide +kernel
theorem dX5_alarmsSet_33 : decode cX5_alarmsSet 33 = .ok (.goto (-29), 3) := by decide +kernel
theorem dX5_alarmsSet_36 : decode cX5_alarmsSet 36 = .ok (.iload_n 1, 1) := by decide +kernel
theorem dX5_alarmsSet_37 : decode cX5_alarmsSet 37 = .ok (.ireturn, 1) := by decide +kernel
set_option maxRecDepth 20000 in
theorem ggX5_alarmsWaiting_X0_tell : GoodIn wsX5_alarmsWaiting wsX0_tell := goodIn_r _ [6, 7, 8, 9, 16, 17, 18] (by decide +kernel) (by decide +kernel)
set_option maxRecDepth 20000 in
theorem gX5_alarmsWaiting_X0_tell : GoodIn wsX5_alarmsWaiting (wsV RX5 144 RX0 yX0_tell wsX0_tell) := goodIn_app (goodIn_of _ (by decide +kernel)) ggX5_alarmsWaiting_X0_tell
theorem dX5_alarmsWaiting_0 : decode cX5_alarmsWaiting 0 = .ok (.iconst 0, 1) := by decide +kernel
theorem dX5_alarmsWaiting_1 : decode cX5_alarmsWaiting 1 = .ok (.istore_n 1, 1) := by decide +kernel
theorem dX5_alarmsWaiting_2 : decode cX5_alarmsWaiting 2 = .ok (.iconst 0, 1) := by decide +kernel
theorem dX5_alarmsWaiting_3 : decode cX5_alarmsWaiting 3 = .ok (.istore_n 2, 1) := by decide +kernel
theorem dX5_alarmsWaiting_4 : decode cX5_alarmsWaiting 4 = .ok (.iload_n 2, 1) := by decide +kernel
theorem dX5_alarmsWaiting_5 : decode cX5_alarmsWaiting 5 = .ok (.aload_n 0, 1) := by decide +kernel
theorem dX5_alarmsWaiting_6 : decode cX5_alarmsWaiting 6 = .ok (.getfield 38, 3) := by decide +kernel
theorem dX5_alarmsWaiting_9 : decode cX5_alarmsWaiting 9 = .ok (.arraylength, 1) := by decide +kernel
theorem dX5_alarmsWaiting_10 : decode cX5_alarmsWaiting 10 = .ok (.if_icmp .ge 22, 3) := by decide +kernel
theorem dX5_alarmsWaiting_13 : decode cX5_alarmsWaiting 13 = .ok (.iload_n 1, 1) := by decide +kernel
theorem dX5_alarmsWaiting_14 : decode cX5_alarmsWaiting 14 = .ok (.aload_n 0, 1) := by decide +kernel
theorem dX5_alarmsWaiting_15 : decode cX5_alarmsWaiting 15 = .ok (.getfield 38, 3) := by decide +kernel
theorem dX5_alarmsWaiting_18 : decode cX5_alarmsWaiting 18 = .ok (.iload_n 2, 1) := by decide +kernel
theorem dX5_alarmsWaiting_19 : decode cX5_alarmsWaiting 19 = .ok (.aaload, 1) := by decide +kernel
theorem dX5_alarmsWaiting_20 : decode cX5_alarmsWaiting 20 = .ok (.iconst 1, 1) := by decide +kernel
theorem dX5_alarmsWaiting_21 : decode cX5_alarmsWaiting 21 = .ok (.invokevirtual 144, 3) := by decide +kernel
theorem dX5_alarmsWaiting_24 : decode cX5_alarmsWaiting 24 = .ok (.iadd, 1) := by decide +kernel
theorem dX5_alarmsWaiting_25 : decode cX5_alarmsWaiting 25 = .ok (.istore_n 1, 1) := by decide +kernel
theorem dX5_alarmsWaiting_26 : decode cX5_alarmsWaiting 26 = .ok (.iinc 2 1, 3) := by decide +kernel
theorem dX5_alarmsWaiting_29 : decode cX5_alarmsWaiting 29 = .ok (.goto (-25), 3) := by decide +kernel
theorem dX5_alarmsWaiting_32 : decode cX5_alarmsWaiting 32 = .ok (.iload_n 1, 1) := by decide +kernel
theorem dX5_alarmsWaiting_33 : decode cX5_alarmsWaiting 33 = .ok (.ireturn, 1) := by decide +kernel
theorem dX5_rings_0 : decode cX5_rings 0 = .ok (.iconst 0, 1) := by decide +kernel
theorem dX5_rings_1 : decode cX5_rings 1 = .ok (.istore_n 1, 1) := by decide +kernel
theorem dX5_rings_2 : decode cX5_rings 2 = .ok (.iconst 0, 1) := by decide +kernel
theorem dX5_rings_3 : decode cX5_rings 3 = .ok (.istore_n 2, 1) := by decide +kernel
theorem dX5_rings_4 : decode cX5_rings 4 = .ok (.iload_n 2, 1) := by decide +kernel
theorem dX5_rings_5 : decode cX5_rings 5 = .ok (.aload_n 0, 1) := by decide +kernel
theorem dX5_rings_6 : decode cX5_rings 6 = .ok (.getfield 38, 3) := by decide +kernel
theorem dX5_rings_9 : decode cX5_rings 9 = .ok (.arraylength, 1) := by decide +kernel
theorem dX5_rings_10 : decode cX5_rings 10 = .ok (.if_icmp .ge 21, 3) := by decide +kernel
theorem dX5_rings_13 : decode cX5_rings 13 = .ok (.iload_n 1, 1) := by decide +kernel
theorem dX5_rings_14 : decode cX5_rings 14 = .ok (.aload_n 0, 1) := by decide +kernel
theorem dX5_rings_15 : decode cX5_rings 15 = .ok (.getfield 38, 3) := by decide +kernel
theorem dX5_rings_18 : decode cX5_rings 18 = .ok (.iload_n 2, 1) := by decide +kernel
theorem dX5_rings_19 : decode cX5_rings 19 = .ok (.aaload, 1) := by decide +kernel
theorem dX5_rings_20 : decode cX5_rings 20 = .ok (.getfield 148, 3) := by decide +kernel
theorem dX5_rings_23 : decode cX5_rings 23 = .ok (.iadd, 1) := by decide +kernel
theorem dX5_rings_24 : decode cX5_rings 24 = .ok (.istore_n 1, 1) := by decide +kernel
theorem dX5_rings_25 : decode cX5_rings 25 = .ok (.iinc 2 1, 3) := by decide +kernel
theorem dX5_rings_28 : decode cX5_rings 28 = .ok (.goto (-24), 3) := by decide +kernel
theorem dX5_rings_31 : decode cX5_rings 31 = .ok (.iload_n 1, 1) := by decide +kernel
theorem dX5_rings_32 : decode cX5_rings 32 = .ok (.ireturn, 1) := by decide +kernel
set_option maxRecDepth 20000 in
theorem ggX5_isDeadWithin_X6_domain : GoodIn wsX5_isDeadWithin wsX6_domain := goodIn_r _ [6, 7, 8, 21, 22, 23, 24] (by decide +kernel) (by decide +kernel)
set_option maxRecDepth 20000 in
theorem gX5_isDeadWithin_X6_domain : GoodIn wsX5_isDeadWithin (wsV RX5 76 RX6 yX6_domain wsX6_domain) := goodIn_app (goodIn_of _ (by decide +kernel)) ggX5_isDeadWithin_X6_domain
set_option maxRecDepth 20000 in
theorem ggX5_isDeadWithin_X6_minutesLeft : GoodIn wsX5_isDeadWithin wsX6_minutesLeft := goodIn_r _ [12, 13, 8, 14, 3, 4, 5, 6, 7, 21, 22, 23, 24] (by decide +kernel) (by decide +kernel)
set_option maxRecDepth 20000 in
theorem gX5_isDeadWithin_X6_minutesLeft : GoodIn wsX5_isDeadWithin (wsV RX5 151 RX6 yX6_minutesLeft wsX6_minutesLeft) := goodIn_app (goodIn_of _ (by decide +kernel)) ggX5_isDeadWithin_X6_minutesLeft
theorem dX5_isDeadWithin_0 : decode cX5_isDeadWithin 0 = .ok (.aload_n 0, 1) := by decide +kernel
theorem dX5_isDeadWithin_1 : decode cX5_isDeadWithin 1 = .ok (.getfield 21, 3) := by decide +kernel
theorem dX5_isDeadWithin_4 : decode cX5_isDeadWithin 4 = .ok (.invokevirtual 76, 3) := by decide +kernel
theorem dX5_isDeadWithin_7 : decode cX5_isDeadWithin 7 = .ok (.ifCond .eq 18, 3) := by decide +kernel
theorem dX5_isDeadWithin_10 : decode cX5_isDeadWithin 10 = .ok (.aload_n 0, 1) := by decide +kernel
theorem dX5_isDeadWithin_11 : decode cX5_isDeadWithin 11 = .ok (.getfield 21, 3) := by decide +kernel
theorem dX5_isDeadWithin_14 : decode cX5_isDeadWithin 14 = .ok (.invokevirtual 151, 3) := by decide +kernel
theorem dX5_isDeadWithin_17 : decode cX5_isDeadWithin 17 = .ok (.iload_n 1, 1) := by decide +kernel
theorem dX5_isDeadWithin_18 : decode cX5_isDeadWithin 18 = .ok (.if_icmp .gt 7, 3) := by decide +kernel
theorem dX5_isDeadWithin_21 : decode cX5_isDeadWithin 21 = .ok (.iconst 1, 1) := by decide +kernel
theorem dX5_isDeadWithin_22 : decode cX5_isDeadWithin 22 = .ok (.goto 4, 3) := by decide +kernel
theorem dX5_isDeadWithin_25 : decode cX5_isDeadWithin 25 = .ok (.iconst 0, 1) := by decide +kernel
theorem dX5_isDeadWithin_26 : decode cX5_isDeadWithin 26 = .ok (.ireturn, 1) := by decide +kernel
set_option maxRecDepth 20000 in
theorem ggX5_nearer_X5_distanceAfter : GoodIn wsX5_nearer wsX5_distanceAfter := goodIn_r _ [5, 6, 7, 8, 9, 10, 11, 12, 13, 4, 14, 15, 16, 17, 18, 19, 20, 21, 22, 23, 24, 25, 26, 27, 28, 29, 30, 31, 32, 33, 34, 35, 36, 37] (by decide +kernel) (by decide +kernel)
set_option maxRecDepth 20000 in
theorem gX5_nearer_X5_distanceAfter : GoodIn wsX5_nearer (wsV RX5 154 RX5 yX5_distanceAfter wsX5_distanceAfter) := goodIn_app (goodIn_of _ (by decide +kernel)) ggX5_nearer_X5_distanceAfter
theorem dX5_nearer_0 : decode cX5_nearer 0 = .ok (.aload_n 0, 1) := by decide +kernel
theorem dX5_nearer_1 : decode cX5_nearer 1 = .ok (.iload_n 1, 1) := by decide +kernel
theorem dX5_nearer_2 : decode cX5_nearer 2 = .ok (.iload_n 3, 1) := by decide +kernel
theorem dX5_nearer_3 : decode cX5_nearer 3 = .ok (.invokevirtual 154, 3) := by decide +kernel
theorem dX5_nearer_6 : decode cX5_nearer 6 = .ok (.aload_n 0, 1) := by decide +kernel
theorem dX5_nearer_7 : decode cX5_nearer 7 = .ok (.iload_n 1, 1) := by decide +kernel
theorem dX5_nearer_8 : decode cX5_nearer 8 = .ok (.iload_n 2, 1) := by decide +kernel
theorem dX5_nearer_9 : decode cX5_nearer 9 = .ok (.invokevirtual 154, 3) := by decide +kernel
theorem dX5_nearer_12 : decode cX5_nearer 12 = .ok (.if_icmp .ge 7, 3) := by decide +kernel
theorem dX5_nearer_15 : decode cX5_nearer 15 = .ok (.iload_n 3, 1) := by decide +kernel
theorem dX5_nearer_16 : decode cX5_nearer 16 = .ok (.goto 4, 3) := by decide +kernel
theorem dX5_nearer_19 : decode cX5_nearer 19 = .ok (.iload_n 2, 1) := by decide +kernel
theorem dX5_nearer_20 : decode cX5_nearer 20 = .ok (.ireturn, 1) := by decide +kernel
set_option maxRecDepth 20000 in
theorem ggX5_distanceAfter_X5_offset : GoodIn wsX5_distanceAfter wsX5_offset := goodIn_r _ [10, 1, 11, 12, 21, 22, 23, 24, 25, 26, 27, 28, 29, 30, 31, 32, 33] (by decide +kernel) (by decide +kernel)
set_option maxRecDepth 20000 in
theorem gX5_distanceAfter_X5_offset : GoodIn wsX5_distanceAfter (wsV RX5 158 RX5 yX5_offset wsX5_offset) := goodIn_app (goodIn_of _ (by decide +kernel)) ggX5_distanceAfter_X5_offset
set_option maxRecDepth 20000 in
theorem ggX5_distanceAfter_X1_winsWith : GoodIn wsX5_distanceAfter wsX1_winsWith := goodIn_r _ [17, 18, 19, 20, 27, 28, 29, 30, 31, 32, 33] (by decide +kernel) (by decide +kernel)
set_option maxRecDepth 20000 in
theorem gX5_distanceAfter_X1_winsWith : GoodIn wsX5_distanceAfter (wsV RX5 161 RX1 yX1_winsWith wsX1_winsWith) := goodIn_app (goodIn_of _ (by decide +kernel)) ggX5_distanceAfter_X1_winsWith
theorem dX5_distanceAfter_0 : decode cX5_distanceAfter 0 = .ok (.aload_n 0, 1) := by decide +kernel
theorem dX5_distanceAfter_1 : decode cX5_distanceAfter 1 = .ok (.invokevirtual 158, 3) := by decide +kernel
theorem dX5_distanceAfter_4 : decode cX5_distanceAfter 4 = .ok (.aload_n 0, 1) := by decide +kernel
theorem dX5_distanceAfter_5 : decode cX5_distanceAfter 5 = .ok (.getfield 12, 3) := by decide +kernel
theorem dX5_distanceAfter_8 : decode cX5_distanceAfter 8 = .ok (.iload_n 1, 1) := by decide +kernel
theorem dX5_distanceAfter_9 : decode cX5_distanceAfter 9 = .ok (.iload_n 2, 1) := by decide +kernel
theorem dX5_distanceAfter_10 : decode cX5_distanceAfter 10 = .ok (.invokevirtual 161, 3) := by decide +kernel
theorem dX5_distanceAfter_13 : decode cX5_distanceAfter 13 = .ok (.iadd, 1) := by decide +kernel
theorem dX5_distanceAfter_14 : decode cX5_distanceAfter 14 = .ok (.invokestatic 164, 3) := by decide +kernel
theorem dX5_distanceAfter_17 : decode cX5_distanceAfter 17 = .ok (.ireturn, 1) := by decide +kernel
set_option maxRecDepth 20000 in
theorem ggX5_tell_X5_offset : GoodIn wsX5_tell wsX5_offset := goodIn_r _ [19, 2, 3, 1, 45, 46, 47, 48, 49, 50, 51, 52, 53, 54, 55, 56, 57] (by decide +kernel) (by decide +kernel)
set_option maxRecDepth 20000 in
theorem gX5_tell_X5_offset : GoodIn wsX5_tell (wsV RX5 158 RX5 yX5_offset wsX5_offset) := goodIn_app (goodIn_of _ (by decide +kernel)) ggX5_tell_X5_offset
set_option maxRecDepth 20000 in
theorem ggX5_tell_X6_domain : GoodIn wsX5_tell wsX6_domain := goodIn_r _ [24, 25, 26, 58, 59, 60, 61] (by decide +kernel) (by decide +kernel)
set_option maxRecDepth 20000 in
theorem gX5_tell_X6_domain : GoodIn wsX5_tell (wsV RX5 76 RX6 yX6_domain wsX6_domain) := goodIn_app (goodIn_of _ (by decide +kernel)) ggX5_tell_X6_domain
set_option maxRecDepth 20000 in
theorem ggX5_tell_X5_rings : GoodIn wsX5_tell wsX5_rings := goodIn_r _ [30, 31, 32, 45, 46, 47, 48, 49, 50, 68, 69, 70] (by decide +kernel) (by decide +kernel)
set_option maxRecDepth 20000 in
theorem gX5_tell_X5_rings : GoodIn wsX5_tell (wsV RX5 184 RX5 yX5_rings wsX5_rings) := goodIn_app (goodIn_of _ (by decide +kernel)) ggX5_tell_X5_rings
set_option maxRecDepth 20000 in
theorem ggX5_tell_X5_alarmsWaiting : GoodIn wsX5_tell wsX5_alarmsWaiting := goodIn_r _ [36, 31, 37, 38, 39, 40, 41, 42, 43, 44, 45, 46, 47, 48, 49, 50, 68, 69, 70] (by decide +kernel) (by decide +kernel)
set_option maxRecDepth 20000 in
theorem gX5_tell_X5_alarmsWaiting : GoodIn wsX5_tell (wsV RX5 186 RX5 yX5_alarmsWaiting wsX5_alarmsWaiting) := goodIn_app (goodIn_of _ (by decide +kernel)) ggX5_tell_X5_alarmsWaiting
theorem dX5_tell_0 : decode cX5_tell 0 = .ok (.iload_n 1, 1) := by decide +kernel
theorem dX5_tell_1 : decode cX5_tell 1 = .ok (.tableswitch 179 0 13 #[71, 76, 84, 92, 100, 108, 113, 129, 137, 145, 153, 161, 169, 174], 71) := by decide +kernel
theorem dX5_tell_72 : decode cX5_tell 72 = .ok (.aload_n 0, 1) := by decide +kernel
theorem dX5_tell_73 : decode cX5_tell 73 = .ok (.getfield 46, 3) := by decide +kernel
theorem dX5_tell_76 : decode cX5_tell 76 = .ok (.ireturn, 1) := by decide +kernel
theorem dX5_tell_77 : decode cX5_tell 77 = .ok (.aload_n 0, 1) := by decide +kernel
theorem dX5_tell_78 : decode cX5_tell 78 = .ok (.getfield 12, 3) := by decide +kernel
theorem dX5_tell_81 : decode cX5_tell 81 = .ok (.getfield 80, 3) := by decide +kernel
theorem dX5_tell_84 : decode cX5_tell 84 = .ok (.ireturn, 1) := by decide +kernel
theorem dX5_tell_85 : decode cX5_tell 85 = .ok (.aload_n 0, 1) := by decide +kernel
theorem dX5_tell_86 : decode cX5_tell 86 = .ok (.getfield 12, 3) := by decide +kernel
theorem dX5_tell_89 : decode cX5_tell 89 = .ok (.getfield 169, 3) := by decide +kernel
theorem dX5_tell_92 : decode cX5_tell 92 = .ok (.ireturn, 1) := by decide +kernel
theorem dX5_tell_93 : decode cX5_tell 93 = .ok (.aload_n 0, 1) := by decide +kernel
theorem dX5_tell_94 : decode cX5_tell 94 = .ok (.getfield 12, 3) := by decide +kernel
theorem dX5_tell_97 : decode cX5_tell 97 = .ok (.getfield 172, 3) := by decide +kernel
theorem dX5_tell_100 : decode cX5_tell 100 = .ok (.ireturn, 1) := by decide +kernel
theorem dX5_tell_101 : decode cX5_tell 101 = .ok (.aload_n 0, 1) := by decide +kernel
theorem dX5_tell_102 : decode cX5_tell 102 = .ok (.getfield 12, 3) := by decide +kernel
theorem dX5_tell_105 : decode cX5_tell 105 = .ok (.getfield 175, 3) := by decide +kernel
theorem dX5_tell_108 : decode cX5_tell 108 = .ok (.ireturn, 1) := by decide +kernel
theorem dX5_tell_109 : decode cX5_tell 109 = .ok (.aload_n 0, 1) := by decide +kernel
theorem dX5_tell_110 : decode cX5_tell 110 = .ok (.invokevirtual 158, 3) := by decide +kernel
theorem dX5_tell_113 : decode cX5_tell 113 = .ok (.ireturn, 1) := by decide +kernel
theorem dX5_tell_114 : decode cX5_tell 114 = .ok (.aload_n 0, 1) := by decide +kernel
theorem dX5_tell_115 : decode cX5_tell 115 = .ok (.getfield 12, 3) := by decide +kernel
theorem dX5_tell_118 : decode cX5_tell 118 = .ok (.getfield 178, 3) := by decide +kernel
theorem dX5_tell_121 : decode cX5_tell 121 = .ok (.ifCond .eq 7, 3) := by decide +kernel
theorem dX5_tell_124 : decode cX5_tell 124 = .ok (.iconst 1, 1) := by decide +kernel
theorem dX5_tell_125 : decode cX5_tell 125 = .ok (.goto 4, 3) := by decide +kernel
theorem dX5_tell_128 : decode cX5_tell 128 = .ok (.iconst 0, 1) := by decide +kernel
theorem dX5_tell_129 : decode cX5_tell 129 = .ok (.ireturn, 1) := by decide +kernel
theorem dX5_tell_130 : decode cX5_tell 130 = .ok (.aload_n 0, 1) := by decide +kernel
theorem dX5_tell_131 : decode cX5_tell 131 = .ok (.getfield 21, 3) := by decide +kernel
theorem dX5_tell_134 : decode cX5_tell 134 = .ok (.getfield 107, 3) := by decide +kernel
theorem dX5_tell_137 : decode cX5_tell 137 = .ok (.ireturn, 1) := by decide +kernel
theorem dX5_tell_138 : decode cX5_tell 138 = .ok (.aload_n 0, 1) := by decide +kernel
theorem dX5_tell_139 : decode cX5_tell 139 = .ok (.getfield 21, 3) := by decide +kernel
theorem dX5_tell_142 : decode cX5_tell 142 = .ok (.getfield 110, 3) := by decide +kernel
theorem dX5_tell_145 : decode cX5_tell 145 = .ok (.ireturn, 1) := by decide +kernel
theorem dX5_tell_146 : decode cX5_tell 146 = .ok (.aload_n 0, 1) := by decide +kernel
theorem dX5_tell_147 : decode cX5_tell 147 = .ok (.getfield 21, 3) := by decide +kernel
theorem dX5_tell_150 : decode cX5_tell 150 = .ok (.invokevirtual 76, 3) := by decide +kernel
theorem dX5_tell_153 : decode cX5_tell 153 = .ok (.ireturn, 1) := by decide +kernel
theorem dX5_tell_154 : decode cX5_tell 154 = .ok (.aload_n 0, 1) := by decide +kernel
theorem dX5_tell_155 : decode cX5_tell 155 = .ok (.getfield 28, 3) := by decide +kernel
theorem dX5_tell_158 : decode cX5_tell 158 = .ok (.getfield 123, 3) := by decide +kernel
theorem dX5_tell_161 : decode cX5_tell 161 = .ok (.ireturn, 1) := by decide +kernel
theorem dX5_tell_162 : decode cX5_tell 162 = .ok (.aload_n 0, 1) := by decide +kernel
theorem dX5_tell_163 : decode cX5_tell 163 = .ok (.getfield 28, 3) := by decide +kernel
theorem dX5_tell_166 : decode cX5_tell 166 = .ok (.getfield 181, 3) := by decide +kernel
theorem dX5_tell_169 : decode cX5_tell 169 = .ok (.ireturn, 1) := by decide +kernel
theorem dX5_tell_170 : decode cX5_tell 170 = .ok (.aload_n 0, 1) := by decide +kernel
theorem dX5_tell_171 : decode cX5_tell 171 = .ok (.invokevirtual 184, 3) := by decide +kernel
theorem dX5_tell_174 : decode cX5_tell 174 = .ok (.ireturn, 1) := by decide +kernel
theorem dX5_tell_175 : decode cX5_tell 175 = .ok (.aload_n 0, 1) := by decide +kernel
theorem dX5_tell_176 : decode cX5_tell 176 = .ok (.invokevirtual 186, 3) := by decide +kernel
theorem dX5_tell_179 : decode cX5_tell 179 = .ok (.ireturn, 1) := by decide +kernel
theorem dX5_tell_180 : decode cX5_tell 180 = .ok (.aload_n 0, 1) := by decide +kernel
theorem dX5_tell_181 : decode cX5_tell 181 = .ok (.getfield 21, 3) := by decide +kernel
theorem dX5_tell_184 : decode cX5_tell 184 = .ok (.getfield 119, 3) := by decide +kernel
theorem dX5_tell_187 : decode cX5_tell 187 = .ok (.ireturn, 1) := by decide +kernel
theorem dX6_init_0 : decode cX6_init 0 = .ok (.aload_n 0, 1) := by decide +kernel
theorem dX6_init_1 : decode cX6_init 1 = .ok (.invokespecial 3, 3) := by decide +kernel
theorem dX6_init_4 : decode cX6_init 4 = .ok (.aload_n 0, 1) := by decide +kernel
theorem dX6_init_5 : decode cX6_init 5 = .ok (.iconst 4, 1) := by decide +kernel
theorem dX6_init_6 : decode cX6_init 6 = .ok (.newarray .int, 2) := by decide +kernel
theorem dX6_init_8 : decode cX6_init 8 = .ok (.putfield 9, 3) := by decide +kernel
theorem dX6_init_11 : decode cX6_init 11 = .ok (.return_, 1) := by decide +kernel
theorem dX6_reset_0 : decode cX6_reset 0 = .ok (.iconst 0, 1) := by decide +kernel
theorem dX6_reset_1 : decode cX6_reset 1 = .ok (.istore_n 1, 1) := by decide +kernel
theorem dX6_reset_2 : decode cX6_reset 2 = .ok (.iload_n 1, 1) := by decide +kernel
theorem dX6_reset_3 : decode cX6_reset 3 = .ok (.aload_n 0, 1) := by decide +kernel
theorem dX6_reset_4 : decode cX6_reset 4 = .ok (.getfield 9, 3) := by decide +kernel
theorem dX6_reset_7 : decode cX6_reset 7 = .ok (.arraylength, 1) := by decide +kernel
theorem dX6_reset_8 : decode cX6_reset 8 = .ok (.if_icmp .ge 16, 3) := by decide +kernel
theorem dX6_reset_11 : decode cX6_reset 11 = .ok (.aload_n 0, 1) := by decide +kernel
theorem dX6_reset_12 : decode cX6_reset 12 = .ok (.getfield 9, 3) := by decide +kernel
theorem dX6_reset_15 : decode cX6_reset 15 = .ok (.iload_n 1, 1) := by decide +kernel
theorem dX6_reset_16 : decode cX6_reset 16 = .ok (.iconst 0, 1) := by decide +kernel
theorem dX6_reset_17 : decode cX6_reset 17 = .ok (.iastore, 1) := by decide +kernel
theorem dX6_reset_18 : decode cX6_reset 18 = .ok (.iinc 1 1, 3) := by decide +kernel
theorem dX6_reset_21 : decode cX6_reset 21 = .ok (.goto (-19), 3) := by decide +kernel
theorem dX6_reset_24 : decode cX6_reset 24 = .ok (.aload_n 0, 1) := by decide +kernel
theorem dX6_reset_25 : decode cX6_reset 25 = .ok (.bipush 9, 2) := by decide +kernel
theorem dX6_reset_27 : decode cX6_reset 27 = .ok (.putfield 15, 3) := by decide +kernel
theorem dX6_reset_30 : decode cX6_reset 30 = .ok (.aload_n 0, 1) := by decide +kernel
theorem dX6_reset_31 : decode cX6_reset 31 = .ok (.sipush 1000, 3) := by decide +kernel
theorem dX6_reset_34 : decode cX6_reset 34 = .ok (.putfield 19, 3) := by decide +kernel
theorem dX6_reset_37 : decode cX6_reset 37 = .ok (.aload_n 0, 1) := by decide +kernel
theorem dX6_reset_38 : decode cX6_reset 38 = .ok (.iconst 0, 1) := by decide +kernel
theorem dX6_reset_39 : decode cX6_reset 39 = .ok (.putfield 22, 3) := by decide +kernel
theorem dX6_reset_42 : decode cX6_reset 42 = .ok (.return_, 1) := by decide +kernel
theorem dX6_copyFrom_0 : decode cX6_copyFrom 0 = .ok (.aload_n 1, 1) := by decide +kernel
theorem dX6_copyFrom_1 : decode cX6_copyFrom 1 = .ok (.getfield 9, 3) := by decide +kernel
theorem dX6_copyFrom_4 : decode cX6_copyFrom 4 = .ok (.iconst 0, 1) := by decide +kernel
theorem dX6_copyFrom_5 : decode cX6_copyFrom 5 = .ok (.aload_n 0, 1) := by decide +kernel
theorem dX6_copyFrom_6 : decode cX6_copyFrom 6 = .ok (.getfield 9, 3) := by decide +kernel
theorem dX6_copyFrom_9 : decode cX6_copyFrom 9 = .ok (.iconst 0, 1) := by decide +kernel
theorem dX6_copyFrom_10 : decode cX6_copyFrom 10 = .ok (.iconst 4, 1) := by decide +kernel
theorem dX6_copyFrom_11 : decode cX6_copyFrom 11 = .ok (.invokestatic 25, 3) := by decide +kernel
theorem dX6_copyFrom_14 : decode cX6_copyFrom 14 = .ok (.aload_n 0, 1) := by decide +kernel
theorem dX6_copyFrom_15 : decode cX6_copyFrom 15 = .ok (.aload_n 1, 1) := by decide +kernel
theorem dX6_copyFrom_16 : decode cX6_copyFrom 16 = .ok (.getfield 15, 3) := by decide +kernel
theorem dX6_copyFrom_19 : decode cX6_copyFrom 19 = .ok (.putfield 15, 3) := by decide +kernel
theorem dX6_copyFrom_22 : decode cX6_copyFrom 22 = .ok (.aload_n 0, 1) := by decide +kernel
theorem dX6_copyFrom_23 : decode cX6_copyFrom 23 = .ok (.aload_n 1, 1) := by decide +kernel
theorem dX6_copyFrom_24 : decode cX6_copyFrom 24 = .ok (.getfield 19, 3) := by decide +kernel
theorem dX6_copyFrom_27 : decode cX6_copyFrom 27 = .ok (.putfield 19, 3) := by decide +kernel
theorem dX6_copyFrom_30 : decode cX6_copyFrom 30 = .ok (.aload_n 0, 1) := by decide +kernel
theorem dX6_copyFrom_31 : decode cX6_copyFrom 31 = .ok (.aload_n 1, 1) := by decide +kernel
theorem dX6_copyFrom_32 : decode cX6_copyFrom 32 = .ok (.getfield 22, 3) := by decide +kernel
theorem dX6_copyFrom_35 : decode cX6_copyFrom 35 = .ok (.putfield 22, 3) := by decide +kernel
theorem dX6_copyFrom_38 : decode cX6_copyFrom 38 = .ok (.return_, 1) := by decide +kernel
theorem dX6_domain_0 : decode cX6_domain 0 = .ok (.aload_n 0, 1) := by decide +kernel
theorem dX6_domain_1 : decode cX6_domain 1 = .ok (.getfield 15, 3) := by decide +kernel
theorem dX6_domain_4 : decode cX6_domain 4 = .ok (.bipush 6, 2) := by decide +kernel
theorem dX6_domain_6 : decode cX6_domain 6 = .ok (.if_icmp .lt 5, 3) := by decide +kernel
theorem dX6_domain_9 : decode cX6_domain 9 = .ok (.iconst 0, 1) := by decide +kernel
theorem dX6_domain_10 : decode cX6_domain 10 = .ok (.ireturn, 1) := by decide +kernel
theorem dX6_domain_11 : decode cX6_domain 11 = .ok (.aload_n 0, 1) := by decide +kernel
theorem dX6_domain_12 : decode cX6_domain 12 = .ok (.getfield 19, 3) := by decide +kernel
theorem dX6_domain_15 : decode cX6_domain 15 = .ok (.ifCond .ne 5, 3) := by decide +kernel
theorem dX6_domain_18 : decode cX6_domain 18 = .ok (.iconst 3, 1) := by decide +kernel
theorem dX6_domain_19 : decode cX6_domain 19 = .ok (.ireturn, 1) := by decide +kernel
theorem dX6_domain_20 : decode cX6_domain 20 = .ok (.aload_n 0, 1) := by decide +kernel
theorem dX6_domain_21 : decode cX6_domain 21 = .ok (.getfield 15, 3) := by decide +kernel
theorem dX6_domain_24 : decode cX6_domain 24 = .ok (.iconst 3, 1) := by decide +kernel
theorem dX6_domain_25 : decode cX6_domain 25 = .ok (.if_icmp .lt 7, 3) := by decide +kernel
theorem dX6_domain_28 : decode cX6_domain 28 = .ok (.iconst 1, 1) := by decide +kernel
theorem dX6_domain_29 : decode cX6_domain 29 = .ok (.goto 4, 3) := by decide +kernel
theorem dX6_domain_32 : decode cX6_domain 32 = .ok (.iconst 2, 1) := by decide +kernel
theorem dX6_domain_33 : decode cX6_domain 33 = .ok (.ireturn, 1) := by decide +kernel
set_option maxRecDepth 20000 in
theorem ggX6_spendMinute_X6_domain : GoodIn wsX6_spendMinute wsX6_domain := goodIn_r _ [7, 8, 2, 9, 10, 11, 12] (by decide +kernel) (by decide +kernel)
set_option maxRecDepth 20000 in
theorem gX6_spendMinute_X6_domain : GoodIn wsX6_spendMinute (wsV RX6 31 RX6 yX6_domain wsX6_domain) := goodIn_app (goodIn_of _ (by decide +kernel)) ggX6_spendMinute_X6_domain
theorem dX6_spendMinute_0 : decode cX6_spendMinute 0 = .ok (.aload_n 0, 1) := by decide +kernel
theorem dX6_spendMinute_1 : decode cX6_spendMinute 1 = .ok (.invokevirtual 31, 3) := by decide +kernel
theorem dX6_spendMinute_4 : decode cX6_spendMinute 4 = .ok (.istore_n 1, 1) := by decide +kernel
theorem dX6_spendMinute_5 : decode cX6_spendMinute 5 = .ok (.aload_n 0, 1) := by decide +kernel
theorem dX6_spendMinute_6 : decode cX6_spendMinute 6 = .ok (.getfield 9, 3) := by decide +kernel
theorem dX6_spendMinute_9 : decode cX6_spendMinute 9 = .ok (.iload_n 1, 1) := by decide +kernel
theorem dX6_spendMinute_10 : decode cX6_spendMinute 10 = .ok (.dup2, 1) := by decide +kernel
theorem dX6_spendMinute_11 : decode cX6_spendMinute 11 = .ok (.iaload, 1) := by decide +kernel
theorem dX6_spendMinute_12 : decode cX6_spendMinute 12 = .ok (.iconst 1, 1) := by decide +kernel
theorem dX6_spendMinute_13 : decode cX6_spendMinute 13 = .ok (.iadd, 1) := by decide +kernel
theorem dX6_spendMinute_14 : decode cX6_spendMinute 14 = .ok (.iastore, 1) := by decide +kernel
theorem dX6_spendMinute_15 : decode cX6_spendMinute 15 = .ok (.iload_n 1, 1) := by decide +kernel
theorem dX6_spendMinute_16 : decode cX6_spendMinute 16 = .ok (.iconst 1, 1) := by decide +kernel
theorem dX6_spendMinute_17 : decode cX6_spendMinute 17 = .ok (.if_icmp .eq 8, 3) := by decide +kernel
theorem dX6_spendMinute_20 : decode cX6_spendMinute 20 = .ok (.iload_n 1, 1) := by decide +kernel
theorem dX6_spendMinute_21 : decode cX6_spendMinute 21 = .ok (.iconst 2, 1) := by decide +kernel
theorem dX6_spendMinute_22 : decode cX6_spendMinute 22 = .ok (.if_icmp .ne 13, 3) := by decide +kernel
theorem dX6_spendMinute_25 : decode cX6_spendMinute 25 = .ok (.aload_n 0, 1) := by decide +kernel
theorem dX6_spendMinute_26 : decode cX6_spendMinute 26 = .ok (.dup, 1) := by decide +kernel
theorem dX6_spendMinute_27 : decode cX6_spendMinute 27 = .ok (.getfield 19, 3) := by decide +kernel
theorem dX6_spendMinute_30 : decode cX6_spendMinute 30 = .ok (.iconst 1, 1) := by decide +kernel
theorem dX6_spendMinute_31 : decode cX6_spendMinute 31 = .ok (.isub, 1) := by decide +kernel
theorem dX6_spendMinute_32 : decode cX6_spendMinute 32 = .ok (.putfield 19, 3) := by decide +kernel
theorem dX6_spendMinute_35 : decode cX6_spendMinute 35 = .ok (.return_, 1) := by decide +kernel
set_option maxRecDepth 20000 in
theorem ggX6_minutesLeft_X6_domain : GoodIn wsX6_minutesLeft wsX6_domain := goodIn_r _ [7, 8, 2, 9, 10, 11, 12] (by decide +kernel) (by decide +kernel)
set_option maxRecDepth 20000 in
theorem gX6_minutesLeft_X6_domain : GoodIn wsX6_minutesLeft (wsV RX6 31 RX6 yX6_domain wsX6_domain) := goodIn_app (goodIn_of _ (by decide +kernel)) ggX6_minutesLeft_X6_domain
theorem dX6_minutesLeft_0 : decode cX6_minutesLeft 0 = .ok (.aload_n 0, 1) := by decide +kernel
theorem dX6_minutesLeft_1 : decode cX6_minutesLeft 1 = .ok (.invokevirtual 31, 3) := by decide +kernel
theorem dX6_minutesLeft_4 : decode cX6_minutesLeft 4 = .ok (.ifCond .ne 8, 3) := by decide +kernel
theorem dX6_minutesLeft_7 : decode cX6_minutesLeft 7 = .ok (.ldc 35, 2) := by decide +kernel
theorem dX6_minutesLeft_9 : decode cX6_minutesLeft 9 = .ok (.goto 7, 3) := by decide +kernel
theorem dX6_minutesLeft_12 : decode cX6_minutesLeft 12 = .ok (.aload_n 0, 1) := by decide +kernel
theorem dX6_minutesLeft_13 : decode cX6_minutesLeft 13 = .ok (.getfield 19, 3) := by decide +kernel
theorem dX6_minutesLeft_16 : decode cX6_minutesLeft 16 = .ok (.ireturn, 1) := by decide +kernel
theorem dX7_init_0 : decode cX7_init 0 = .ok (.aload_n 0, 1) := by decide +kernel
theorem dX7_init_1 : decode cX7_init 1 = .ok (.invokespecial 3, 3) := by decide +kernel
theorem dX7_init_4 : decode cX7_init 4 = .ok (.aload_n 0, 1) := by decide +kernel
theorem dX7_init_5 : decode cX7_init 5 = .ok (.iconst 3, 1) := by decide +kernel
theorem dX7_init_6 : decode cX7_init 6 = .ok (.newarray .boolean, 2) := by decide +kernel
theorem dX7_init_8 : decode cX7_init 8 = .ok (.putfield 9, 3) := by decide +kernel
theorem dX7_init_11 : decode cX7_init 11 = .ok (.aload_n 0, 1) := by decide +kernel
theorem dX7_init_12 : decode cX7_init 12 = .ok (.bipush 6, 2) := by decide +kernel
theorem dX7_init_14 : decode cX7_init 14 = .ok (.newarray .int, 2) := by decide +kernel
theorem dX7_init_16 : decode cX7_init 16 = .ok (.putfield 15, 3) := by decide +kernel
theorem dX7_init_19 : decode cX7_init 19 = .ok (.aload_n 0, 1) := by decide +kernel
theorem dX7_init_20 : decode cX7_init 20 = .ok (.bipush 6, 2) := by decide +kernel
theorem dX7_init_22 : decode cX7_init 22 = .ok (.newarray .int, 2) := by decide +kernel
theorem dX7_init_24 : decode cX7_init 24 = .ok (.putfield 19, 3) := by decide +kernel
theorem dX7_init_27 : decode cX7_init 27 = .ok (.aload_n 0, 1) := by decide +kernel
theorem dX7_init_28 : decode cX7_init 28 = .ok (.bipush 6, 2) := by decide +kernel
theorem dX7_init_30 : decode cX7_init 30 = .ok (.newarray .int, 2) := by decide +kernel
theorem dX7_init_32 : decode cX7_init 32 = .ok (.putfield 22, 3) := by decide +kernel
theorem dX7_init_35 : decode cX7_init 35 = .ok (.return_, 1) := by decide +kernel
theorem dX7_reset_0 : decode cX7_reset 0 = .ok (.iconst 0, 1) := by decide +kernel
theorem dX7_reset_1 : decode cX7_reset 1 = .ok (.istore_n 1, 1) := by decide +kernel
theorem dX7_reset_2 : decode cX7_reset 2 = .ok (.iload_n 1, 1) := by decide +kernel
theorem dX7_reset_3 : decode cX7_reset 3 = .ok (.aload_n 0, 1) := by decide +kernel
theorem dX7_reset_4 : decode cX7_reset 4 = .ok (.getfield 9, 3) := by decide +kernel
theorem dX7_reset_7 : decode cX7_reset 7 = .ok (.arraylength, 1) := by decide +kernel
theorem dX7_reset_8 : decode cX7_reset 8 = .ok (.if_icmp .ge 16, 3) := by decide +kernel
theorem dX7_reset_11 : decode cX7_reset 11 = .ok (.aload_n 0, 1) := by decide +kernel
theorem dX7_reset_12 : decode cX7_reset 12 = .ok (.getfield 9, 3) := by decide +kernel
theorem dX7_reset_15 : decode cX7_reset 15 = .ok (.iload_n 1, 1) := by decide +kernel
theorem dX7_reset_16 : decode cX7_reset 16 = .ok (.iconst 0, 1) := by decide +kernel
theorem dX7_reset_17 : decode cX7_reset 17 = .ok (.bastore, 1) := by decide +kernel
theorem dX7_reset_18 : decode cX7_reset 18 = .ok (.iinc 1 1, 3) := by decide +kernel
theorem dX7_reset_21 : decode cX7_reset 21 = .ok (.goto (-19), 3) := by decide +kernel
theorem dX7_reset_24 : decode cX7_reset 24 = .ok (.aload_n 0, 1) := by decide +kernel
theorem dX7_reset_25 : decode cX7_reset 25 = .ok (.iconst 0, 1) := by decide +kernel
theorem dX7_reset_26 : decode cX7_reset 26 = .ok (.putfield 25, 3) := by decide +kernel
theorem dX7_reset_29 : decode cX7_reset 29 = .ok (.aload_n 0, 1) := by decide +kernel
theorem dX7_reset_30 : decode cX7_reset 30 = .ok (.iconst 0, 1) := by decide +kernel
theorem dX7_reset_31 : decode cX7_reset 31 = .ok (.putfield 29, 3) := by decide +kernel
theorem dX7_reset_34 : decode cX7_reset 34 = .ok (.return_, 1) := by decide +kernel
theorem dX7_copyFrom_0 : decode cX7_copyFrom 0 = .ok (.aload_n 1, 1) := by decide +kernel
theorem dX7_copyFrom_1 : decode cX7_copyFrom 1 = .ok (.getfield 9, 3) := by decide +kernel
theorem dX7_copyFrom_4 : decode cX7_copyFrom 4 = .ok (.iconst 0, 1) := by decide +kernel
theorem dX7_copyFrom_5 : decode cX7_copyFrom 5 = .ok (.aload_n 0, 1) := by decide +kernel
theorem dX7_copyFrom_6 : decode cX7_copyFrom 6 = .ok (.getfield 9, 3) := by decide +kernel
theorem dX7_copyFrom_9 : decode cX7_copyFrom 9 = .ok (.iconst 0, 1) := by decide +kernel
theorem dX7_copyFrom_10 : decode cX7_copyFrom 10 = .ok (.iconst 3, 1) := by decide +kernel
theorem dX7_copyFrom_11 : decode cX7_copyFrom 11 = .ok (.invokestatic 32, 3) := by decide +kernel
theorem dX7_copyFrom_14 : decode cX7_copyFrom 14 = .ok (.aload_n 1, 1) := by decide +kernel
theorem dX7_copyFrom_15 : decode cX7_copyFrom 15 = .ok (.getfield 15, 3) := by decide +kernel
theorem dX7_copyFrom_18 : decode cX7_copyFrom 18 = .ok (.iconst 0, 1) := by decide +kernel
theorem dX7_copyFrom_19 : decode cX7_copyFrom 19 = .ok (.aload_n 0, 1) := by decide +kernel
theorem dX7_copyFrom_20 : decode cX7_copyFrom 20 = .ok (.getfield 15, 3) := by decide +kernel
theorem dX7_copyFrom_23 : decode cX7_copyFrom 23 = .ok (.iconst 0, 1) := by decide +kernel
theorem dX7_copyFrom_24 : decode cX7_copyFrom 24 = .ok (.bipush 6, 2) := by decide +kernel
theorem dX7_copyFrom_26 : decode cX7_copyFrom 26 = .ok (.invokestatic 32, 3) := by decide +kernel
theorem dX7_copyFrom_29 : decode cX7_copyFrom 29 = .ok (.aload_n 1, 1) := by decide +kernel
theorem dX7_copyFrom_30 : decode cX7_copyFrom 30 = .ok (.getfield 19, 3) := by decide +kernel
theorem dX7_copyFrom_33 : decode cX7_copyFrom 33 = .ok (.iconst 0, 1) := by decide +kernel
theorem dX7_copyFrom_34 : decode cX7_copyFrom 34 = .ok (.aload_n 0, 1) := by decide +kernel
theorem dX7_copyFrom_35 : decode cX7_copyFrom 35 = .ok (.getfield 19, 3) := by decide +kernel
theorem dX7_copyFrom_38 : decode cX7_copyFrom 38 = .ok (.iconst 0, 1) := by decide +kernel
theorem dX7_copyFrom_39 : decode cX7_copyFrom 39 = .ok (.bipush 6, 2) := by decide +kernel
theorem dX7_copyFrom_41 : decode cX7_copyFrom 41 = .ok (.invokestatic 32, 3) := by decide +kernel
theorem dX7_copyFrom_44 : decode cX7_copyFrom 44 = .ok (.aload_n 1, 1) := by decide +kernel
theorem dX7_copyFrom_45 : decode cX7_copyFrom 45 = .ok (.getfield 22, 3) := by decide +kernel
theorem dX7_copyFrom_48 : decode cX7_copyFrom 48 = .ok (.iconst 0, 1) := by decide +kernel
theorem dX7_copyFrom_49 : decode cX7_copyFrom 49 = .ok (.aload_n 0, 1) := by decide +kernel
theorem dX7_copyFrom_50 : decode cX7_copyFrom 50 = .ok (.getfield 22, 3) := by decide +kernel
theorem dX7_copyFrom_53 : decode cX7_copyFrom 53 = .ok (.iconst 0, 1) := by decide +kernel
theorem dX7_copyFrom_54 : decode cX7_copyFrom 54 = .ok (.bipush 6, 2) := by decide +kernel
theorem dX7_copyFrom_56 : decode cX7_copyFrom 56 = .ok (.invokestatic 32, 3) := by decide +kernel
theorem dX7_copyFrom_59 : decode cX7_copyFrom 59 = .ok (.aload_n 0, 1) := by decide +kernel
theorem dX7_copyFrom_60 : decode cX7_copyFrom 60 = .ok (.aload_n 1, 1) := by decide +kernel
theorem dX7_copyFrom_61 : decode cX7_copyFrom 61 = .ok (.getfield 25, 3) := by decide +kernel
theorem dX7_copyFrom_64 : decode cX7_copyFrom 64 = .ok (.putfield 25, 3) := by decide +kernel
theorem dX7_copyFrom_67 : decode cX7_copyFrom 67 = .ok (.aload_n 0, 1) := by decide +kernel
theorem dX7_copyFrom_68 : decode cX7_copyFrom 68 = .ok (.aload_n 1, 1) := by decide +kernel
theorem dX7_copyFrom_69 : decode cX7_copyFrom 69 = .ok (.getfield 29, 3) := by decide +kernel
theorem dX7_copyFrom_72 : decode cX7_copyFrom 72 = .ok (.putfield 29, 3) := by decide +kernel
theorem dX7_copyFrom_75 : decode cX7_copyFrom 75 = .ok (.return_, 1) := by decide +kernel
theorem dX7_guardedPins_0 : decode cX7_guardedPins 0 = .ok (.iconst 0, 1) := by decide +kernel
theorem dX7_guardedPins_1 : decode cX7_guardedPins 1 = .ok (.istore_n 1, 1) := by decide +kernel
theorem dX7_guardedPins_2 : decode cX7_guardedPins 2 = .ok (.iconst 0, 1) := by decide +kernel
theorem dX7_guardedPins_3 : decode cX7_guardedPins 3 = .ok (.istore_n 2, 1) := by decide +kernel
theorem dX7_guardedPins_4 : decode cX7_guardedPins 4 = .ok (.iload_n 2, 1) := by decide +kernel
theorem dX7_guardedPins_5 : decode cX7_guardedPins 5 = .ok (.aload_n 0, 1) := by decide +kernel
theorem dX7_guardedPins_6 : decode cX7_guardedPins 6 = .ok (.getfield 9, 3) := by decide +kernel
theorem dX7_guardedPins_9 : decode cX7_guardedPins 9 = .ok (.arraylength, 1) := by decide +kernel
theorem dX7_guardedPins_10 : decode cX7_guardedPins 10 = .ok (.if_icmp .ge 21, 3) := by decide +kernel
theorem dX7_guardedPins_13 : decode cX7_guardedPins 13 = .ok (.aload_n 0, 1) := by decide +kernel
theorem dX7_guardedPins_14 : decode cX7_guardedPins 14 = .ok (.getfield 9, 3) := by decide +kernel
theorem dX7_guardedPins_17 : decode cX7_guardedPins 17 = .ok (.iload_n 2, 1) := by decide +kernel
theorem dX7_guardedPins_18 : decode cX7_guardedPins 18 = .ok (.baload, 1) := by decide +kernel
theorem dX7_guardedPins_19 : decode cX7_guardedPins 19 = .ok (.ifCond .eq 6, 3) := by decide +kernel
theorem dX7_guardedPins_22 : decode cX7_guardedPins 22 = .ok (.iinc 1 1, 3) := by decide +kernel
theorem dX7_guardedPins_25 : decode cX7_guardedPins 25 = .ok (.iinc 2 1, 3) := by decide +kernel
theorem dX7_guardedPins_28 : decode cX7_guardedPins 28 = .ok (.goto (-24), 3) := by decide +kernel
theorem dX7_guardedPins_31 : decode cX7_guardedPins 31 = .ok (.iload_n 1, 1) := by decide +kernel
theorem dX7_guardedPins_32 : decode cX7_guardedPins 32 = .ok (.ireturn, 1) := by decide +kernel
theorem dX7_add_0 : decode cX7_add 0 = .ok (.aload_n 0, 1) := by decide +kernel
theorem dX7_add_1 : decode cX7_add 1 = .ok (.dup, 1) := by decide +kernel
theorem dX7_add_2 : decode cX7_add 2 = .ok (.getfield 29, 3) := by decide +kernel
theorem dX7_add_5 : decode cX7_add 5 = .ok (.iconst 1, 1) := by decide +kernel
theorem dX7_add_6 : decode cX7_add 6 = .ok (.iadd, 1) := by decide +kernel
theorem dX7_add_7 : decode cX7_add 7 = .ok (.putfield 29, 3) := by decide +kernel
theorem dX7_add_10 : decode cX7_add 10 = .ok (.aload_n 0, 1) := by decide +kernel
theorem dX7_add_11 : decode cX7_add 11 = .ok (.getfield 25, 3) := by decide +kernel
theorem dX7_add_14 : decode cX7_add 14 = .ok (.bipush 6, 2) := by decide +kernel
theorem dX7_add_16 : decode cX7_add 16 = .ok (.if_icmp .lt 4, 3) := by decide +kernel
theorem dX7_add_19 : decode cX7_add 19 = .ok (.return_, 1) := by decide +kernel
theorem dX7_add_20 : decode cX7_add 20 = .ok (.aload_n 0, 1) := by decide +kernel
theorem dX7_add_21 : decode cX7_add 21 = .ok (.getfield 15, 3) := by decide +kernel
theorem dX7_add_24 : decode cX7_add 24 = .ok (.aload_n 0, 1) := by decide +kernel
theorem dX7_add_25 : decode cX7_add 25 = .ok (.getfield 25, 3) := by decide +kernel
theorem dX7_add_28 : decode cX7_add 28 = .ok (.iload_n 1, 1) := by decide +kernel
theorem dX7_add_29 : decode cX7_add 29 = .ok (.iastore, 1) := by decide +kernel
theorem dX7_add_30 : decode cX7_add 30 = .ok (.aload_n 0, 1) := by decide +kernel
theorem dX7_add_31 : decode cX7_add 31 = .ok (.getfield 19, 3) := by decide +kernel
theorem dX7_add_34 : decode cX7_add 34 = .ok (.aload_n 0, 1) := by decide +kernel
theorem dX7_add_35 : decode cX7_add 35 = .ok (.getfield 25, 3) := by decide +kernel
theorem dX7_add_38 : decode cX7_add 38 = .ok (.iload_n 2, 1) := by decide +kernel
theorem dX7_add_39 : decode cX7_add 39 = .ok (.iastore, 1) := by decide +kernel
theorem dX7_add_40 : decode cX7_add 40 = .ok (.aload_n 0, 1) := by decide +kernel
theorem dX7_add_41 : decode cX7_add 41 = .ok (.getfield 22, 3) := by decide +kernel
theorem dX7_add_44 : decode cX7_add 44 = .ok (.aload_n 0, 1) := by decide +kernel
theorem dX7_add_45 : decode cX7_add 45 = .ok (.getfield 25, 3) := by decide +kernel
theorem dX7_add_48 : decode cX7_add 48 = .ok (.iload_n 3, 1) := by decide +kernel
theorem dX7_add_49 : decode cX7_add 49 = .ok (.iastore, 1) := by decide +kernel
theorem dX7_add_50 : decode cX7_add 50 = .ok (.aload_n 0, 1) := by decide +kernel
theorem dX7_add_51 : decode cX7_add 51 = .ok (.dup, 1) := by decide +kernel
theorem dX7_add_52 : decode cX7_add 52 = .ok (.getfield 25, 3) := by decide +kernel
theorem dX7_add_55 : decode cX7_add 55 = .ok (.iconst 1, 1) := by decide +kernel
theorem dX7_add_56 : decode cX7_add 56 = .ok (.iadd, 1) := by decide +kernel
theorem dX7_add_57 : decode cX7_add 57 = .ok (.putfield 25, 3) := by decide +kernel
theorem dX7_add_60 : decode cX7_add 60 = .ok (.return_, 1) := by decide +kernel
theorem dX7_tellRow_0 : decode cX7_tellRow 0 = .ok (.iload_n 2, 1) := by decide +kernel
theorem dX7_tellRow_1 : decode cX7_tellRow 1 = .ok (.lookupswitch 41 #[(0, 27), (1, 34)], 27) := by decide +kernel
theorem dX7_tellRow_28 : decode cX7_tellRow 28 = .ok (.aload_n 0, 1) := by decide +kernel
theorem dX7_tellRow_29 : decode cX7_tellRow 29 = .ok (.getfield 15, 3) := by decide +kernel
theorem dX7_tellRow_32 : decode cX7_tellRow 32 = .ok (.iload_n 1, 1) := by decide +kernel
theorem dX7_tellRow_33 : decode cX7_tellRow 33 = .ok (.iaload, 1) := by decide +kernel
theorem dX7_tellRow_34 : decode cX7_tellRow 34 = .ok (.ireturn, 1) := by decide +kernel
theorem dX7_tellRow_35 : decode cX7_tellRow 35 = .ok (.aload_n 0, 1) := by decide +kernel
theorem dX7_tellRow_36 : decode cX7_tellRow 36 = .ok (.getfield 19, 3) := by decide +kernel
theorem dX7_tellRow_39 : decode cX7_tellRow 39 = .ok (.iload_n 1, 1) := by decide +kernel
theorem dX7_tellRow_40 : decode cX7_tellRow 40 = .ok (.iaload, 1) := by decide +kernel
theorem dX7_tellRow_41 : decode cX7_tellRow 41 = .ok (.ireturn, 1) := by decide +kernel
theorem dX7_tellRow_42 : decode cX7_tellRow 42 = .ok (.aload_n 0, 1) := by decide +kernel
theorem dX7_tellRow_43 : decode cX7_tellRow 43 = .ok (.getfield 22, 3) := by decide +kernel
theorem dX7_tellRow_46 : decode cX7_tellRow 46 = .ok (.iload_n 1, 1) := by decide +kernel
theorem dX7_tellRow_47 : decode cX7_tellRow 47 = .ok (.iaload, 1) := by decide +kernel
theorem dX7_tellRow_48 : decode cX7_tellRow 48 = .ok (.ireturn, 1) := by decide +kernel
theorem dX8_init_0 : decode cX8_init 0 = .ok (.aload_n 0, 1) := by decide +kernel
theorem dX8_init_1 : decode cX8_init 1 = .ok (.invokespecial 3, 3) := by decide +kernel
theorem dX8_init_4 : decode cX8_init 4 = .ok (.aload_n 0, 1) := by decide +kernel
theorem dX8_init_5 : decode cX8_init 5 = .ok (.bipush 60, 2) := by decide +kernel
theorem dX8_init_7 : decode cX8_init 7 = .ok (.newarray .int, 2) := by decide +kernel
theorem dX8_init_9 : decode cX8_init 9 = .ok (.putfield 9, 3) := by decide +kernel
theorem dX8_init_12 : decode cX8_init 12 = .ok (.aload_n 0, 1) := by decide +kernel
theorem dX8_init_13 : decode cX8_init 13 = .ok (.bipush 8, 2) := by decide +kernel
theorem dX8_init_15 : decode cX8_init 15 = .ok (.newarray .boolean, 2) := by decide +kernel
theorem dX8_init_17 : decode cX8_init 17 = .ok (.putfield 15, 3) := by decide +kernel
theorem dX8_init_20 : decode cX8_init 20 = .ok (.return_, 1) := by decide +kernel
theorem dX8_add_0 : decode cX8_add 0 = .ok (.aload_n 0, 1) := by decide +kernel
theorem dX8_add_1 : decode cX8_add 1 = .ok (.getfield 19, 3) := by decide +kernel
theorem dX8_add_4 : decode cX8_add 4 = .ok (.bipush 60, 2) := by decide +kernel
theorem dX8_add_6 : decode cX8_add 6 = .ok (.if_icmp .ge 23, 3) := by decide +kernel
theorem dX8_add_9 : decode cX8_add 9 = .ok (.aload_n 0, 1) := by decide +kernel
theorem dX8_add_10 : decode cX8_add 10 = .ok (.getfield 9, 3) := by decide +kernel

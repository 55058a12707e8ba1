theorem dX8_add_13 : decode cX8_add 13 = .ok (.aload_n 0, 1) := by decide +kernel
theorem dX8_add_14 : decode cX8_add 14 = .ok (.getfield 19, 3) := by decide +kernel
theorem dX8_add_17 : decode cX8_add 17 = .ok (.iload_n 1, 1) := by decide +kernel
theorem dX8_add_18 : decode cX8_add 18 = .ok (.iastore, 1) := by decide +kernel
theorem dX8_add_19 : decode cX8_add 19 = .ok (.aload_n 0, 1) := by decide +kernel
theorem dX8_add_20 : decode cX8_add 20 = .ok (.dup, 1) := by decide +kernel
theorem dX8_add_21 : decode cX8_add 21 = .ok (.getfield 19, 3) := by decide +kernel
theorem dX8_add_24 : decode cX8_add 24 = .ok (.iconst 1, 1) := by decide +kernel
theorem dX8_add_25 : decode cX8_add 25 = .ok (.iadd, 1) := by decide +kernel
theorem dX8_add_26 : decode cX8_add 26 = .ok (.putfield 19, 3) := by decide +kernel
theorem dX8_add_29 : decode cX8_add 29 = .ok (.return_, 1) := by decide +kernel
set_option maxRecDepth 20000 in
theorem ggX8_readInto_X5_reset : GoodIn wsX8_readInto wsX5_reset := goodIn_r _ [8, 9, 10, 11, 12, 13, 14, 15, 16, 17, 18, 19, 20, 21, 22, 23, 24, 25, 26, 27, 28, 29, 30, 31, 32, 33, 34, 35, 36, 37, 38, 39, 40, 41, 42, 43, 44, 45, 46, 47, 48, 49, 7, 50, 51, 52, 53, 54, 55, 56, 57, 58, 59, 60, 61, 62, 63, 64, 123, 124, 125, 126, 127, 128, 129, 130, 131, 132, 133, 134, 135, 136, 137, 138, 139, 140, 141, 142, 143, 144, 145, 146, 147, 148] (by decide +kernel) (by decide +kernel)
set_option maxRecDepth 20000 in
theorem gX8_readInto_X5_reset : GoodIn wsX8_readInto (wsV RX8 23 RX5 yX5_reset wsX5_reset) := goodIn_app (goodIn_of _ (by decide +kernel)) ggX8_readInto_X5_reset
set_option maxRecDepth 20000 in
theorem ggX8_readInto_X8_start : GoodIn wsX8_readInto wsX8_start := goodIn_r _ [69, 1, 70, 71, 72, 73, 116, 117, 118, 119, 120, 121, 122] (by decide +kernel) (by decide +kernel)
set_option maxRecDepth 20000 in
theorem gX8_readInto_X8_start : GoodIn wsX8_readInto (wsV RX8 28 RX8 yX8_start wsX8_start) := goodIn_app (goodIn_of _ (by decide +kernel)) ggX8_readInto_X8_start
set_option maxRecDepth 20000 in
theorem ggX8_readInto_X8_readHead : GoodIn wsX8_readInto wsX8_readHead := goodIn_r _ [77, 1, 3, 78, 79, 80, 81, 82, 83, 84, 68, 85, 2, 86, 87, 88, 89, 90, 91, 92, 93, 94, 116, 117, 118, 119, 120, 121, 122, 123, 124, 125, 126, 127, 128, 129, 130, 131, 132, 133, 134, 135, 136, 137, 138, 139] (by decide +kernel) (by decide +kernel)
set_option maxRecDepth 20000 in
theorem gX8_readInto_X8_readHead : GoodIn wsX8_readInto (wsV RX8 31 RX8 yX8_readHead wsX8_readHead) := goodIn_app (goodIn_of _ (by decide +kernel)) ggX8_readInto_X8_readHead
set_option maxRecDepth 20000 in
theorem ggX8_readInto_X8_readPart : GoodIn wsX8_readInto wsX8_readPart := goodIn_r _ [98, 82, 83, 84, 68, 85, 1, 2, 86, 3, 99, 100, 101, 102, 70, 103, 87, 88, 89, 90, 91, 92, 93, 94, 104, 60, 61, 55, 62, 63, 64, 105, 106, 107, 108, 71, 109, 110, 111, 112, 113, 114, 72, 73, 115, 116, 117, 118, 119, 120, 121, 122, 123, 124, 125, 126, 127, 128, 146, 147, 148, 140, 141, 142, 143, 144, 145] (by decide +kernel) (by decide +kernel)
set_option maxRecDepth 20000 in
theorem gX8_readInto_X8_readPart : GoodIn wsX8_readInto (wsV RX8 38 RX8 yX8_readPart wsX8_readPart) := goodIn_app (goodIn_of _ (by decide +kernel)) ggX8_readInto_X8_readPart
theorem dX8_readInto_0 : decode cX8_readInto 0 = .ok (.aload_n 1, 1) := by decide +kernel
theorem dX8_readInto_1 : decode cX8_readInto 1 = .ok (.invokevirtual 23, 3) := by decide +kernel
theorem dX8_readInto_4 : decode cX8_readInto 4 = .ok (.aload_n 0, 1) := by decide +kernel
theorem dX8_readInto_5 : decode cX8_readInto 5 = .ok (.invokevirtual 28, 3) := by decide +kernel
theorem dX8_readInto_8 : decode cX8_readInto 8 = .ok (.aload_n 0, 1) := by decide +kernel
theorem dX8_readInto_9 : decode cX8_readInto 9 = .ok (.aload_n 1, 1) := by decide +kernel
theorem dX8_readInto_10 : decode cX8_readInto 10 = .ok (.invokevirtual 31, 3) := by decide +kernel
theorem dX8_readInto_13 : decode cX8_readInto 13 = .ok (.ifCond .ne 8, 3) := by decide +kernel
theorem dX8_readInto_16 : decode cX8_readInto 16 = .ok (.aload_n 0, 1) := by decide +kernel
theorem dX8_readInto_17 : decode cX8_readInto 17 = .ok (.getfield 35, 3) := by decide +kernel
theorem dX8_readInto_20 : decode cX8_readInto 20 = .ok (.ireturn, 1) := by decide +kernel
theorem dX8_readInto_21 : decode cX8_readInto 21 = .ok (.iconst 0, 1) := by decide +kernel
theorem dX8_readInto_22 : decode cX8_readInto 22 = .ok (.istore_n 2, 1) := by decide +kernel
theorem dX8_readInto_23 : decode cX8_readInto 23 = .ok (.iload_n 2, 1) := by decide +kernel
theorem dX8_readInto_24 : decode cX8_readInto 24 = .ok (.bipush 60, 2) := by decide +kernel
theorem dX8_readInto_26 : decode cX8_readInto 26 = .ok (.if_icmp .ge 33, 3) := by decide +kernel
theorem dX8_readInto_29 : decode cX8_readInto 29 = .ok (.aload_n 0, 1) := by decide +kernel
theorem dX8_readInto_30 : decode cX8_readInto 30 = .ok (.getfield 35, 3) := by decide +kernel
theorem dX8_readInto_33 : decode cX8_readInto 33 = .ok (.aload_n 0, 1) := by decide +kernel
theorem dX8_readInto_34 : decode cX8_readInto 34 = .ok (.getfield 19, 3) := by decide +kernel
theorem dX8_readInto_37 : decode cX8_readInto 37 = .ok (.if_icmp .ge 22, 3) := by decide +kernel
theorem dX8_readInto_40 : decode cX8_readInto 40 = .ok (.aload_n 0, 1) := by decide +kernel
theorem dX8_readInto_41 : decode cX8_readInto 41 = .ok (.aload_n 1, 1) := by decide +kernel
theorem dX8_readInto_42 : decode cX8_readInto 42 = .ok (.invokevirtual 38, 3) := by decide +kernel
theorem dX8_readInto_45 : decode cX8_readInto 45 = .ok (.ifCond .ne 8, 3) := by decide +kernel
theorem dX8_readInto_48 : decode cX8_readInto 48 = .ok (.aload_n 0, 1) := by decide +kernel
theorem dX8_readInto_49 : decode cX8_readInto 49 = .ok (.getfield 35, 3) := by decide +kernel
theorem dX8_readInto_52 : decode cX8_readInto 52 = .ok (.ireturn, 1) := by decide +kernel
theorem dX8_readInto_53 : decode cX8_readInto 53 = .ok (.iinc 2 1, 3) := by decide +kernel
theorem dX8_readInto_56 : decode cX8_readInto 56 = .ok (.goto (-33), 3) := by decide +kernel
theorem dX8_readInto_59 : decode cX8_readInto 59 = .ok (.ldc 41, 2) := by decide +kernel
theorem dX8_readInto_61 : decode cX8_readInto 61 = .ok (.ireturn, 1) := by decide +kernel
theorem dX8_start_0 : decode cX8_start 0 = .ok (.aload_n 0, 1) := by decide +kernel
theorem dX8_start_1 : decode cX8_start 1 = .ok (.iconst 0, 1) := by decide +kernel
theorem dX8_start_2 : decode cX8_start 2 = .ok (.putfield 35, 3) := by decide +kernel
theorem dX8_start_5 : decode cX8_start 5 = .ok (.aload_n 0, 1) := by decide +kernel
theorem dX8_start_6 : decode cX8_start 6 = .ok (.iconst 0, 1) := by decide +kernel
theorem dX8_start_7 : decode cX8_start 7 = .ok (.putfield 42, 3) := by decide +kernel
theorem dX8_start_10 : decode cX8_start 10 = .ok (.aload_n 0, 1) := by decide +kernel
theorem dX8_start_11 : decode cX8_start 11 = .ok (.iconst 0, 1) := by decide +kernel
theorem dX8_start_12 : decode cX8_start 12 = .ok (.putfield 45, 3) := by decide +kernel
theorem dX8_start_15 : decode cX8_start 15 = .ok (.aload_n 0, 1) := by decide +kernel
theorem dX8_start_16 : decode cX8_start 16 = .ok (.iconst 0, 1) := by decide +kernel
theorem dX8_start_17 : decode cX8_start 17 = .ok (.putfield 48, 3) := by decide +kernel
theorem dX8_start_20 : decode cX8_start 20 = .ok (.iconst 0, 1) := by decide +kernel
theorem dX8_start_21 : decode cX8_start 21 = .ok (.istore_n 1, 1) := by decide +kernel
theorem dX8_start_22 : decode cX8_start 22 = .ok (.iload_n 1, 1) := by decide +kernel
theorem dX8_start_23 : decode cX8_start 23 = .ok (.aload_n 0, 1) := by decide +kernel
theorem dX8_start_24 : decode cX8_start 24 = .ok (.getfield 15, 3) := by decide +kernel
theorem dX8_start_27 : decode cX8_start 27 = .ok (.arraylength, 1) := by decide +kernel
theorem dX8_start_28 : decode cX8_start 28 = .ok (.if_icmp .ge 16, 3) := by decide +kernel
theorem dX8_start_31 : decode cX8_start 31 = .ok (.aload_n 0, 1) := by decide +kernel
theorem dX8_start_32 : decode cX8_start 32 = .ok (.getfield 15, 3) := by decide +kernel
theorem dX8_start_35 : decode cX8_start 35 = .ok (.iload_n 1, 1) := by decide +kernel
theorem dX8_start_36 : decode cX8_start 36 = .ok (.iconst 0, 1) := by decide +kernel
theorem dX8_start_37 : decode cX8_start 37 = .ok (.bastore, 1) := by decide +kernel
theorem dX8_start_38 : decode cX8_start 38 = .ok (.iinc 1 1, 3) := by decide +kernel
theorem dX8_start_41 : decode cX8_start 41 = .ok (.goto (-19), 3) := by decide +kernel
theorem dX8_start_44 : decode cX8_start 44 = .ok (.return_, 1) := by decide +kernel
set_option maxRecDepth 20000 in
theorem ggX8_readHead_X8_here : GoodIn wsX8_readHead wsX8_here := goodIn_r _ [11, 1, 12, 13, 2, 22, 23, 24, 25, 26, 27, 28] (by decide +kernel) (by decide +kernel)
set_option maxRecDepth 20000 in
theorem gX8_readHead_X8_here : GoodIn wsX8_readHead (wsV RX8 51 RX8 yX8_here wsX8_here) := goodIn_app (goodIn_of _ (by decide +kernel)) ggX8_readHead_X8_here
set_option maxRecDepth 20000 in
theorem ggX8_readHead_X8_readNumber : GoodIn wsX8_readHead wsX8_readNumber := goodIn_r _ [17, 2, 1, 18, 19, 20, 10, 21, 7, 8, 9, 11, 12, 13, 22, 23, 24, 25, 26, 27, 28] (by decide +kernel) (by decide +kernel)
set_option maxRecDepth 20000 in
theorem gX8_readHead_X8_readNumber : GoodIn wsX8_readHead (wsV RX8 55 RX8 yX8_readNumber wsX8_readNumber) := goodIn_app (goodIn_of _ (by decide +kernel)) ggX8_readHead_X8_readNumber
theorem dX8_readHead_0 : decode cX8_readHead 0 = .ok (.aload_n 0, 1) := by decide +kernel
theorem dX8_readHead_1 : decode cX8_readHead 1 = .ok (.invokevirtual 51, 3) := by decide +kernel
theorem dX8_readHead_4 : decode cX8_readHead 4 = .ok (.bipush 75, 2) := by decide +kernel
theorem dX8_readHead_6 : decode cX8_readHead 6 = .ok (.if_icmp .eq 5, 3) := by decide +kernel
theorem dX8_readHead_9 : decode cX8_readHead 9 = .ok (.iconst 0, 1) := by decide +kernel
theorem dX8_readHead_10 : decode cX8_readHead 10 = .ok (.ireturn, 1) := by decide +kernel
theorem dX8_readHead_11 : decode cX8_readHead 11 = .ok (.aload_n 0, 1) := by decide +kernel
theorem dX8_readHead_12 : decode cX8_readHead 12 = .ok (.dup, 1) := by decide +kernel
theorem dX8_readHead_13 : decode cX8_readHead 13 = .ok (.getfield 35, 3) := by decide +kernel
theorem dX8_readHead_16 : decode cX8_readHead 16 = .ok (.iconst 1, 1) := by decide +kernel
theorem dX8_readHead_17 : decode cX8_readHead 17 = .ok (.iadd, 1) := by decide +kernel
theorem dX8_readHead_18 : decode cX8_readHead 18 = .ok (.putfield 35, 3) := by decide +kernel
theorem dX8_readHead_21 : decode cX8_readHead 21 = .ok (.aload_n 0, 1) := by decide +kernel
theorem dX8_readHead_22 : decode cX8_readHead 22 = .ok (.invokevirtual 51, 3) := by decide +kernel
theorem dX8_readHead_25 : decode cX8_readHead 25 = .ok (.istore_n 2, 1) := by decide +kernel
theorem dX8_readHead_26 : decode cX8_readHead 26 = .ok (.iload_n 2, 1) := by decide +kernel
theorem dX8_readHead_27 : decode cX8_readHead 27 = .ok (.bipush 43, 2) := by decide +kernel
theorem dX8_readHead_29 : decode cX8_readHead 29 = .ok (.if_icmp .eq 11, 3) := by decide +kernel
theorem dX8_readHead_32 : decode cX8_readHead 32 = .ok (.iload_n 2, 1) := by decide +kernel
theorem dX8_readHead_33 : decode cX8_readHead 33 = .ok (.bipush 45, 2) := by decide +kernel
theorem dX8_readHead_35 : decode cX8_readHead 35 = .ok (.if_icmp .eq 5, 3) := by decide +kernel
theorem dX8_readHead_38 : decode cX8_readHead 38 = .ok (.iconst 0, 1) := by decide +kernel
theorem dX8_readHead_39 : decode cX8_readHead 39 = .ok (.ireturn, 1) := by decide +kernel
theorem dX8_readHead_40 : decode cX8_readHead 40 = .ok (.aload_n 0, 1) := by decide +kernel
theorem dX8_readHead_41 : decode cX8_readHead 41 = .ok (.dup, 1) := by decide +kernel
theorem dX8_readHead_42 : decode cX8_readHead 42 = .ok (.getfield 35, 3) := by decide +kernel
theorem dX8_readHead_45 : decode cX8_readHead 45 = .ok (.iconst 1, 1) := by decide +kernel
theorem dX8_readHead_46 : decode cX8_readHead 46 = .ok (.iadd, 1) := by decide +kernel
theorem dX8_readHead_47 : decode cX8_readHead 47 = .ok (.putfield 35, 3) := by decide +kernel
theorem dX8_readHead_50 : decode cX8_readHead 50 = .ok (.aload_n 0, 1) := by decide +kernel
theorem dX8_readHead_51 : decode cX8_readHead 51 = .ok (.bipush 100, 2) := by decide +kernel
theorem dX8_readHead_53 : decode cX8_readHead 53 = .ok (.sipush 500, 3) := by decide +kernel
theorem dX8_readHead_56 : decode cX8_readHead 56 = .ok (.invokevirtual 55, 3) := by decide +kernel
theorem dX8_readHead_59 : decode cX8_readHead 59 = .ok (.istore_n 3, 1) := by decide +kernel
theorem dX8_readHead_60 : decode cX8_readHead 60 = .ok (.iload_n 3, 1) := by decide +kernel
theorem dX8_readHead_61 : decode cX8_readHead 61 = .ok (.ldc 41, 2) := by decide +kernel
theorem dX8_readHead_63 : decode cX8_readHead 63 = .ok (.if_icmp .ne 5, 3) := by decide +kernel
theorem dX8_readHead_66 : decode cX8_readHead 66 = .ok (.iconst 0, 1) := by decide +kernel
theorem dX8_readHead_67 : decode cX8_readHead 67 = .ok (.ireturn, 1) := by decide +kernel
theorem dX8_readHead_68 : decode cX8_readHead 68 = .ok (.aload_n 0, 1) := by decide +kernel
theorem dX8_readHead_69 : decode cX8_readHead 69 = .ok (.sipush 1000, 3) := by decide +kernel
theorem dX8_readHead_72 : decode cX8_readHead 72 = .ok (.sipush 9999, 3) := by decide +kernel
theorem dX8_readHead_75 : decode cX8_readHead 75 = .ok (.invokevirtual 55, 3) := by decide +kernel
theorem dX8_readHead_78 : decode cX8_readHead 78 = .ok (.istore 4, 2) := by decide +kernel
theorem dX8_readHead_80 : decode cX8_readHead 80 = .ok (.iload 4, 2) := by decide +kernel
theorem dX8_readHead_82 : decode cX8_readHead 82 = .ok (.ldc 41, 2) := by decide +kernel
theorem dX8_readHead_84 : decode cX8_readHead 84 = .ok (.if_icmp .ne 5, 3) := by decide +kernel
theorem dX8_readHead_87 : decode cX8_readHead 87 = .ok (.iconst 0, 1) := by decide +kernel
theorem dX8_readHead_88 : decode cX8_readHead 88 = .ok (.ireturn, 1) := by decide +kernel
theorem dX8_readHead_89 : decode cX8_readHead 89 = .ok (.aload_n 1, 1) := by decide +kernel
theorem dX8_readHead_90 : decode cX8_readHead 90 = .ok (.getfield 59, 3) := by decide +kernel
theorem dX8_readHead_93 : decode cX8_readHead 93 = .ok (.iload_n 2, 1) := by decide +kernel
theorem dX8_readHead_94 : decode cX8_readHead 94 = .ok (.bipush 45, 2) := by decide +kernel
theorem dX8_readHead_96 : decode cX8_readHead 96 = .ok (.if_icmp .ne 8, 3) := by decide +kernel
theorem dX8_readHead_99 : decode cX8_readHead 99 = .ok (.iload_n 3, 1) := by decide +kernel
theorem dX8_readHead_100 : decode cX8_readHead 100 = .ok (.ineg, 1) := by decide +kernel
theorem dX8_readHead_101 : decode cX8_readHead 101 = .ok (.goto 4, 3) := by decide +kernel
theorem dX8_readHead_104 : decode cX8_readHead 104 = .ok (.iload_n 3, 1) := by decide +kernel
theorem dX8_readHead_105 : decode cX8_readHead 105 = .ok (.putfield 63, 3) := by decide +kernel
theorem dX8_readHead_108 : decode cX8_readHead 108 = .ok (.aload_n 1, 1) := by decide +kernel
theorem dX8_readHead_109 : decode cX8_readHead 109 = .ok (.getfield 68, 3) := by decide +kernel
theorem dX8_readHead_112 : decode cX8_readHead 112 = .ok (.iload 4, 2) := by decide +kernel
theorem dX8_readHead_114 : decode cX8_readHead 114 = .ok (.putfield 72, 3) := by decide +kernel
theorem dX8_readHead_117 : decode cX8_readHead 117 = .ok (.iconst 1, 1) := by decide +kernel
theorem dX8_readHead_118 : decode cX8_readHead 118 = .ok (.ireturn, 1) := by decide +kernel
set_option maxRecDepth 20000 in
theorem ggX8_readPart_X8_here : GoodIn wsX8_readPart wsX8_here := goodIn_r _ [5, 6, 7, 8, 9, 45, 46, 47, 48, 49, 50, 51] (by decide +kernel) (by decide +kernel)
set_option maxRecDepth 20000 in
theorem gX8_readPart_X8_here : GoodIn wsX8_readPart (wsV RX8 51 RX8 yX8_here wsX8_here) := goodIn_app (goodIn_of _ (by decide +kernel)) ggX8_readPart_X8_here
set_option maxRecDepth 20000 in
theorem ggX8_readPart_X8_readAlarm : GoodIn wsX8_readPart wsX8_readAlarm := goodIn_r _ [13, 14, 6, 9, 15, 16, 17, 18, 4, 19, 20, 21, 22, 23, 1, 2, 3, 5, 7, 8, 24, 25, 26, 27, 28, 29, 30, 45, 46, 47, 48, 49, 50, 51, 52, 53, 54, 55, 56, 57, 58, 59, 60] (by decide +kernel) (by decide +kernel)
set_option maxRecDepth 20000 in
theorem gX8_readPart_X8_readAlarm : GoodIn wsX8_readPart (wsV RX8 77 RX8 yX8_readAlarm wsX8_readAlarm) := goodIn_app (goodIn_of _ (by decide +kernel)) ggX8_readPart_X8_readAlarm
set_option maxRecDepth 20000 in
theorem ggX8_readPart_X8_readPin : GoodIn wsX8_readPart wsX8_readPin := goodIn_r _ [34, 35, 6, 36, 37, 20, 21, 22, 4, 23, 9, 1, 2, 3, 5, 7, 8, 45, 46, 47, 48, 49, 50, 51, 52, 53, 54, 55, 56, 57, 61, 62, 63, 64, 65, 66] (by decide +kernel) (by decide +kernel)
set_option maxRecDepth 20000 in
theorem gX8_readPart_X8_readPin : GoodIn wsX8_readPart (wsV RX8 80 RX8 yX8_readPin wsX8_readPin) := goodIn_app (goodIn_of _ (by decide +kernel)) ggX8_readPart_X8_readPin
set_option maxRecDepth 20000 in
theorem ggX8_readPart_X8_readRegister : GoodIn wsX8_readPart wsX8_readRegister := goodIn_r _ [41, 42, 6, 43, 9, 44, 20, 21, 22, 4, 23, 1, 2, 3, 5, 7, 8, 16, 17, 18, 19, 45, 46, 47, 48, 49, 50, 51, 52, 53, 54, 55, 56, 57] (by decide +kernel) (by decide +kernel)
set_option maxRecDepth 20000 in
theorem gX8_readPart_X8_readRegister : GoodIn wsX8_readPart (wsV RX8 83 RX8 yX8_readRegister wsX8_readRegister) := goodIn_app (goodIn_of _ (by decide +kernel)) ggX8_readPart_X8_readRegister
theorem dX8_readPart_0 : decode cX8_readPart 0 = .ok (.aload_n 0, 1) := by decide +kernel
theorem dX8_readPart_1 : decode cX8_readPart 1 = .ok (.invokevirtual 51, 3) := by decide +kernel
theorem dX8_readPart_4 : decode cX8_readPart 4 = .ok (.lookupswitch 54 #[(97, 36), (112, 42), (114, 48)], 36) := by decide +kernel
theorem dX8_readPart_40 : decode cX8_readPart 40 = .ok (.aload_n 0, 1) := by decide +kernel
theorem dX8_readPart_41 : decode cX8_readPart 41 = .ok (.aload_n 1, 1) := by decide +kernel
theorem dX8_readPart_42 : decode cX8_readPart 42 = .ok (.invokevirtual 77, 3) := by decide +kernel
theorem dX8_readPart_45 : decode cX8_readPart 45 = .ok (.ireturn, 1) := by decide +kernel
theorem dX8_readPart_46 : decode cX8_readPart 46 = .ok (.aload_n 0, 1) := by decide +kernel
theorem dX8_readPart_47 : decode cX8_readPart 47 = .ok (.aload_n 1, 1) := by decide +kernel
theorem dX8_readPart_48 : decode cX8_readPart 48 = .ok (.invokevirtual 80, 3) := by decide +kernel
theorem dX8_readPart_51 : decode cX8_readPart 51 = .ok (.ireturn, 1) := by decide +kernel
theorem dX8_readPart_52 : decode cX8_readPart 52 = .ok (.aload_n 0, 1) := by decide +kernel
theorem dX8_readPart_53 : decode cX8_readPart 53 = .ok (.aload_n 1, 1) := by decide +kernel
theorem dX8_readPart_54 : decode cX8_readPart 54 = .ok (.invokevirtual 83, 3) := by decide +kernel
theorem dX8_readPart_57 : decode cX8_readPart 57 = .ok (.ireturn, 1) := by decide +kernel
theorem dX8_readPart_58 : decode cX8_readPart 58 = .ok (.iconst 0, 1) := by decide +kernel
theorem dX8_readPart_59 : decode cX8_readPart 59 = .ok (.ireturn, 1) := by decide +kernel
set_option maxRecDepth 20000 in
theorem ggX8_readAlarm_X8_readNumber : GoodIn wsX8_readAlarm wsX8_readNumber := goodIn_r _ [9, 3, 2, 10, 11, 12, 8, 13, 14, 15, 16, 17, 18, 19, 27, 28, 29, 30, 31, 32, 33] (by decide +kernel) (by decide +kernel)
set_option maxRecDepth 20000 in
theorem gX8_readAlarm_X8_readNumber : GoodIn wsX8_readAlarm (wsV RX8 55 RX8 yX8_readNumber wsX8_readNumber) := goodIn_app (goodIn_of _ (by decide +kernel)) ggX8_readAlarm_X8_readNumber
set_option maxRecDepth 20000 in
theorem ggX8_readAlarm_X0_setTo : GoodIn wsX8_readAlarm wsX0_setTo := goodIn_r _ [24, 25, 26, 40, 41, 42] (by decide +kernel) (by decide +kernel)
set_option maxRecDepth 20000 in
theorem gX8_readAlarm_X0_setTo : GoodIn wsX8_readAlarm (wsV RX8 90 RX0 yX0_setTo wsX0_setTo) := goodIn_app (goodIn_of _ (by decide +kernel)) ggX8_readAlarm_X0_setTo
theorem dX8_readAlarm_0 : decode cX8_readAlarm 0 = .ok (.aload_n 0, 1) := by decide +kernel
theorem dX8_readAlarm_1 : decode cX8_readAlarm 1 = .ok (.getfield 42, 3) := by decide +kernel
theorem dX8_readAlarm_4 : decode cX8_readAlarm 4 = .ok (.iconst 4, 1) := by decide +kernel
theorem dX8_readAlarm_5 : decode cX8_readAlarm 5 = .ok (.if_icmp .lt 5, 3) := by decide +kernel
theorem dX8_readAlarm_8 : decode cX8_readAlarm 8 = .ok (.iconst 0, 1) := by decide +kernel
theorem dX8_readAlarm_9 : decode cX8_readAlarm 9 = .ok (.ireturn, 1) := by decide +kernel
theorem dX8_readAlarm_10 : decode cX8_readAlarm 10 = .ok (.aload_n 0, 1) := by decide +kernel
theorem dX8_readAlarm_11 : decode cX8_readAlarm 11 = .ok (.dup, 1) := by decide +kernel
theorem dX8_readAlarm_12 : decode cX8_readAlarm 12 = .ok (.getfield 35, 3) := by decide +kernel
theorem dX8_readAlarm_15 : decode cX8_readAlarm 15 = .ok (.iconst 1, 1) := by decide +kernel
theorem dX8_readAlarm_16 : decode cX8_readAlarm 16 = .ok (.iadd, 1) := by decide +kernel
theorem dX8_readAlarm_17 : decode cX8_readAlarm 17 = .ok (.putfield 35, 3) := by decide +kernel
theorem dX8_readAlarm_20 : decode cX8_readAlarm 20 = .ok (.aload_n 0, 1) := by decide +kernel
theorem dX8_readAlarm_21 : decode cX8_readAlarm 21 = .ok (.bipush 10, 2) := by decide +kernel
theorem dX8_readAlarm_23 : decode cX8_readAlarm 23 = .ok (.bipush 23, 2) := by decide +kernel
theorem dX8_readAlarm_25 : decode cX8_readAlarm 25 = .ok (.invokevirtual 55, 3) := by decide +kernel
theorem dX8_readAlarm_28 : decode cX8_readAlarm 28 = .ok (.istore_n 2, 1) := by decide +kernel
theorem dX8_readAlarm_29 : decode cX8_readAlarm 29 = .ok (.iload_n 2, 1) := by decide +kernel
theorem dX8_readAlarm_30 : decode cX8_readAlarm 30 = .ok (.ldc 41, 2) := by decide +kernel
theorem dX8_readAlarm_32 : decode cX8_readAlarm 32 = .ok (.if_icmp .ne 5, 3) := by decide +kernel
theorem dX8_readAlarm_35 : decode cX8_readAlarm 35 = .ok (.iconst 0, 1) := by decide +kernel
theorem dX8_readAlarm_36 : decode cX8_readAlarm 36 = .ok (.ireturn, 1) := by decide +kernel
theorem dX8_readAlarm_37 : decode cX8_readAlarm 37 = .ok (.aload_n 0, 1) := by decide +kernel
theorem dX8_readAlarm_38 : decode cX8_readAlarm 38 = .ok (.bipush 10, 2) := by decide +kernel
theorem dX8_readAlarm_40 : decode cX8_readAlarm 40 = .ok (.bipush 59, 2) := by decide +kernel
theorem dX8_readAlarm_42 : decode cX8_readAlarm 42 = .ok (.invokevirtual 55, 3) := by decide +kernel
theorem dX8_readAlarm_45 : decode cX8_readAlarm 45 = .ok (.istore_n 3, 1) := by decide +kernel
theorem dX8_readAlarm_46 : decode cX8_readAlarm 46 = .ok (.iload_n 3, 1) := by decide +kernel
theorem dX8_readAlarm_47 : decode cX8_readAlarm 47 = .ok (.ldc 41, 2) := by decide +kernel
theorem dX8_readAlarm_49 : decode cX8_readAlarm 49 = .ok (.if_icmp .ne 5, 3) := by decide +kernel
theorem dX8_readAlarm_52 : decode cX8_readAlarm 52 = .ok (.iconst 0, 1) := by decide +kernel
theorem dX8_readAlarm_53 : decode cX8_readAlarm 53 = .ok (.ireturn, 1) := by decide +kernel
theorem dX8_readAlarm_54 : decode cX8_readAlarm 54 = .ok (.aload_n 1, 1) := by decide +kernel
theorem dX8_readAlarm_55 : decode cX8_readAlarm 55 = .ok (.getfield 86, 3) := by decide +kernel
theorem dX8_readAlarm_58 : decode cX8_readAlarm 58 = .ok (.aload_n 0, 1) := by decide +kernel
theorem dX8_readAlarm_59 : decode cX8_readAlarm 59 = .ok (.getfield 42, 3) := by decide +kernel
theorem dX8_readAlarm_62 : decode cX8_readAlarm 62 = .ok (.aaload, 1) := by decide +kernel
theorem dX8_readAlarm_63 : decode cX8_readAlarm 63 = .ok (.iload_n 2, 1) := by decide +kernel
theorem dX8_readAlarm_64 : decode cX8_readAlarm 64 = .ok (.bipush 60, 2) := by decide +kernel
theorem dX8_readAlarm_66 : decode cX8_readAlarm 66 = .ok (.imul, 1) := by decide +kernel
theorem dX8_readAlarm_67 : decode cX8_readAlarm 67 = .ok (.iload_n 3, 1) := by decide +kernel
theorem dX8_readAlarm_68 : decode cX8_readAlarm 68 = .ok (.iadd, 1) := by decide +kernel
theorem dX8_readAlarm_69 : decode cX8_readAlarm 69 = .ok (.invokevirtual 90, 3) := by decide +kernel
theorem dX8_readAlarm_72 : decode cX8_readAlarm 72 = .ok (.aload_n 0, 1) := by decide +kernel
theorem dX8_readAlarm_73 : decode cX8_readAlarm 73 = .ok (.dup, 1) := by decide +kernel
theorem dX8_readAlarm_74 : decode cX8_readAlarm 74 = .ok (.getfield 42, 3) := by decide +kernel
theorem dX8_readAlarm_77 : decode cX8_readAlarm 77 = .ok (.iconst 1, 1) := by decide +kernel
theorem dX8_readAlarm_78 : decode cX8_readAlarm 78 = .ok (.iadd, 1) := by decide +kernel
theorem dX8_readAlarm_79 : decode cX8_readAlarm 79 = .ok (.putfield 42, 3) := by decide +kernel
theorem dX8_readAlarm_82 : decode cX8_readAlarm 82 = .ok (.iconst 1, 1) := by decide +kernel
theorem dX8_readAlarm_83 : decode cX8_readAlarm 83 = .ok (.ireturn, 1) := by decide +kernel
set_option maxRecDepth 20000 in
theorem ggX8_readPin_X8_digitHere : GoodIn wsX8_readPin wsX8_digitHere := goodIn_r _ [9, 10, 11, 12, 13, 8, 14, 2, 15, 16, 17, 18, 19, 20, 21, 22, 23] (by decide +kernel) (by decide +kernel)
set_option maxRecDepth 20000 in
theorem gX8_readPin_X8_digitHere : GoodIn wsX8_readPin (wsV RX8 96 RX8 yX8_digitHere wsX8_digitHere) := goodIn_app (goodIn_of _ (by decide +kernel)) ggX8_readPin_X8_digitHere
theorem dX8_readPin_0 : decode cX8_readPin 0 = .ok (.aload_n 0, 1) := by decide +kernel
theorem dX8_readPin_1 : decode cX8_readPin 1 = .ok (.getfield 45, 3) := by decide +kernel
theorem dX8_readPin_4 : decode cX8_readPin 4 = .ok (.iconst 3, 1) := by decide +kernel
theorem dX8_readPin_5 : decode cX8_readPin 5 = .ok (.if_icmp .lt 5, 3) := by decide +kernel
theorem dX8_readPin_8 : decode cX8_readPin 8 = .ok (.iconst 0, 1) := by decide +kernel
theorem dX8_readPin_9 : decode cX8_readPin 9 = .ok (.ireturn, 1) := by decide +kernel
theorem dX8_readPin_10 : decode cX8_readPin 10 = .ok (.aload_n 0, 1) := by decide +kernel
theorem dX8_readPin_11 : decode cX8_readPin 11 = .ok (.dup, 1) := by decide +kernel
theorem dX8_readPin_12 : decode cX8_readPin 12 = .ok (.getfield 35, 3) := by decide +kernel
theorem dX8_readPin_15 : decode cX8_readPin 15 = .ok (.iconst 1, 1) := by decide +kernel
theorem dX8_readPin_16 : decode cX8_readPin 16 = .ok (.iadd, 1) := by decide +kernel
theorem dX8_readPin_17 : decode cX8_readPin 17 = .ok (.putfield 35, 3) := by decide +kernel
theorem dX8_readPin_20 : decode cX8_readPin 20 = .ok (.aload_n 0, 1) := by decide +kernel
theorem dX8_readPin_21 : decode cX8_readPin 21 = .ok (.invokevirtual 96, 3) := by decide +kernel
theorem dX8_readPin_24 : decode cX8_readPin 24 = .ok (.istore_n 2, 1) := by decide +kernel
theorem dX8_readPin_25 : decode cX8_readPin 25 = .ok (.iload_n 2, 1) := by decide +kernel
theorem dX8_readPin_26 : decode cX8_readPin 26 = .ok (.ifCond .lt 20, 3) := by decide +kernel
theorem dX8_readPin_29 : decode cX8_readPin 29 = .ok (.iload_n 2, 1) := by decide +kernel
theorem dX8_readPin_30 : decode cX8_readPin 30 = .ok (.iconst 3, 1) := by decide +kernel
theorem dX8_readPin_31 : decode cX8_readPin 31 = .ok (.if_icmp .ge 15, 3) := by decide +kernel
theorem dX8_readPin_34 : decode cX8_readPin 34 = .ok (.aload_n 1, 1) := by decide +kernel
theorem dX8_readPin_35 : decode cX8_readPin 35 = .ok (.getfield 99, 3) := by decide +kernel
theorem dX8_readPin_38 : decode cX8_readPin 38 = .ok (.getfield 103, 3) := by decide +kernel
theorem dX8_readPin_41 : decode cX8_readPin 41 = .ok (.iload_n 2, 1) := by decide +kernel
theorem dX8_readPin_42 : decode cX8_readPin 42 = .ok (.baload, 1) := by decide +kernel
theorem dX8_readPin_43 : decode cX8_readPin 43 = .ok (.ifCond .eq 5, 3) := by decide +kernel
theorem dX8_readPin_46 : decode cX8_readPin 46 = .ok (.iconst 0, 1) := by decide +kernel
theorem dX8_readPin_47 : decode cX8_readPin 47 = .ok (.ireturn, 1) := by decide +kernel
theorem dX8_readPin_48 : decode cX8_readPin 48 = .ok (.aload_n 0, 1) := by decide +kernel
theorem dX8_readPin_49 : decode cX8_readPin 49 = .ok (.dup, 1) := by decide +kernel
theorem dX8_readPin_50 : decode cX8_readPin 50 = .ok (.getfield 35, 3) := by decide +kernel
theorem dX8_readPin_53 : decode cX8_readPin 53 = .ok (.iconst 1, 1) := by decide +kernel
theorem dX8_readPin_54 : decode cX8_readPin 54 = .ok (.iadd, 1) := by decide +kernel
theorem dX8_readPin_55 : decode cX8_readPin 55 = .ok (.putfield 35, 3) := by decide +kernel
theorem dX8_readPin_58 : decode cX8_readPin 58 = .ok (.aload_n 1, 1) := by decide +kernel
theorem dX8_readPin_59 : decode cX8_readPin 59 = .ok (.getfield 99, 3) := by decide +kernel
theorem dX8_readPin_62 : decode cX8_readPin 62 = .ok (.getfield 103, 3) := by decide +kernel
theorem dX8_readPin_65 : decode cX8_readPin 65 = .ok (.iload_n 2, 1) := by decide +kernel
theorem dX8_readPin_66 : decode cX8_readPin 66 = .ok (.iconst 1, 1) := by decide +kernel
theorem dX8_readPin_67 : decode cX8_readPin 67 = .ok (.bastore, 1) := by decide +kernel
theorem dX8_readPin_68 : decode cX8_readPin 68 = .ok (.aload_n 0, 1) := by decide +kernel
theorem dX8_readPin_69 : decode cX8_readPin 69 = .ok (.dup, 1) := by decide +kernel
theorem dX8_readPin_70 : decode cX8_readPin 70 = .ok (.getfield 45, 3) := by decide +kernel
theorem dX8_readPin_73 : decode cX8_readPin 73 = .ok (.iconst 1, 1) := by decide +kernel
theorem dX8_readPin_74 : decode cX8_readPin 74 = .ok (.iadd, 1) := by decide +kernel
theorem dX8_readPin_75 : decode cX8_readPin 75 = .ok (.putfield 45, 3) := by decide +kernel
theorem dX8_readPin_78 : decode cX8_readPin 78 = .ok (.iconst 1, 1) := by decide +kernel
theorem dX8_readPin_79 : decode cX8_readPin 79 = .ok (.ireturn, 1) := by decide +kernel
set_option maxRecDepth 20000 in
theorem ggX8_readRegister_X8_digitHere : GoodIn wsX8_readRegister wsX8_digitHere := goodIn_r _ [10, 4, 11, 12, 13, 9, 14, 2, 15, 16, 21, 22, 23, 24, 25, 26, 27] (by decide +kernel) (by decide +kernel)
set_option maxRecDepth 20000 in
theorem gX8_readRegister_X8_digitHere : GoodIn wsX8_readRegister (wsV RX8 96 RX8 yX8_digitHere wsX8_digitHere) := goodIn_app (goodIn_of _ (by decide +kernel)) ggX8_readRegister_X8_digitHere
set_option maxRecDepth 20000 in
theorem ggX8_readRegister_X8_readNumber : GoodIn wsX8_readRegister wsX8_readNumber := goodIn_r _ [20, 4, 2, 6, 7, 8, 9, 10, 11, 12, 13, 14, 15, 16, 21, 22, 23, 24, 25, 26, 27] (by decide +kernel) (by decide +kernel)
set_option maxRecDepth 20000 in
theorem gX8_readRegister_X8_readNumber : GoodIn wsX8_readRegister (wsV RX8 55 RX8 yX8_readNumber wsX8_readNumber) := goodIn_app (goodIn_of _ (by decide +kernel)) ggX8_readRegister_X8_readNumber
theorem dX8_readRegister_0 : decode cX8_readRegister 0 = .ok (.aload_n 0, 1) := by decide +kernel
theorem dX8_readRegister_1 : decode cX8_readRegister 1 = .ok (.getfield 48, 3) := by decide +kernel
theorem dX8_readRegister_4 : decode cX8_readRegister 4 = .ok (.bipush 8, 2) := by decide +kernel
theorem dX8_readRegister_6 : decode cX8_readRegister 6 = .ok (.if_icmp .lt 5, 3) := by decide +kernel
theorem dX8_readRegister_9 : decode cX8_readRegister 9 = .ok (.iconst 0, 1) := by decide +kernel
theorem dX8_readRegister_10 : decode cX8_readRegister 10 = .ok (.ireturn, 1) := by decide +kernel
theorem dX8_readRegister_11 : decode cX8_readRegister 11 = .ok (.aload_n 0, 1) := by decide +kernel
theorem dX8_readRegister_12 : decode cX8_readRegister 12 = .ok (.dup, 1) := by decide +kernel
theorem dX8_readRegister_13 : decode cX8_readRegister 13 = .ok (.getfield 35, 3) := by decide +kernel
theorem dX8_readRegister_16 : decode cX8_readRegister 16 = .ok (.iconst 1, 1) := by decide +kernel
theorem dX8_readRegister_17 : decode cX8_readRegister 17 = .ok (.iadd, 1) := by decide +kernel
theorem dX8_readRegister_18 : decode cX8_readRegister 18 = .ok (.putfield 35, 3) := by decide +kernel
theorem dX8_readRegister_21 : decode cX8_readRegister 21 = .ok (.aload_n 0, 1) := by decide +kernel
theorem dX8_readRegister_22 : decode cX8_readRegister 22 = .ok (.invokevirtual 96, 3) := by decide +kernel
theorem dX8_readRegister_25 : decode cX8_readRegister 25 = .ok (.istore_n 2, 1) := by decide +kernel
theorem dX8_readRegister_26 : decode cX8_readRegister 26 = .ok (.iload_n 2, 1) := by decide +kernel
theorem dX8_readRegister_27 : decode cX8_readRegister 27 = .ok (.ifCond .lt 18, 3) := by decide +kernel
theorem dX8_readRegister_30 : decode cX8_readRegister 30 = .ok (.iload_n 2, 1) := by decide +kernel
theorem dX8_readRegister_31 : decode cX8_readRegister 31 = .ok (.bipush 8, 2) := by decide +kernel
theorem dX8_readRegister_33 : decode cX8_readRegister 33 = .ok (.if_icmp .ge 12, 3) := by decide +kernel
theorem dX8_readRegister_36 : decode cX8_readRegister 36 = .ok (.aload_n 0, 1) := by decide +kernel
theorem dX8_readRegister_37 : decode cX8_readRegister 37 = .ok (.getfield 15, 3) := by decide +kernel
theorem dX8_readRegister_40 : decode cX8_readRegister 40 = .ok (.iload_n 2, 1) := by decide +kernel
theorem dX8_readRegister_41 : decode cX8_readRegister 41 = .ok (.baload, 1) := by decide +kernel
theorem dX8_readRegister_42 : decode cX8_readRegister 42 = .ok (.ifCond .eq 5, 3) := by decide +kernel
theorem dX8_readRegister_45 : decode cX8_readRegister 45 = .ok (.iconst 0, 1) := by decide +kernel
theorem dX8_readRegister_46 : decode cX8_readRegister 46 = .ok (.ireturn, 1) := by decide +kernel
theorem dX8_readRegister_47 : decode cX8_readRegister 47 = .ok (.aload_n 0, 1) := by decide +kernel
theorem dX8_readRegister_48 : decode cX8_readRegister 48 = .ok (.dup, 1) := by decide +kernel
theorem dX8_readRegister_49 : decode cX8_readRegister 49 = .ok (.getfield 35, 3) := by decide +kernel
theorem dX8_readRegister_52 : decode cX8_readRegister 52 = .ok (.iconst 1, 1) := by decide +kernel
theorem dX8_readRegister_53 : decode cX8_readRegister 53 = .ok (.iadd, 1) := by decide +kernel
theorem dX8_readRegister_54 : decode cX8_readRegister 54 = .ok (.putfield 35, 3) := by decide +kernel
theorem dX8_readRegister_57 : decode cX8_readRegister 57 = .ok (.aload_n 0, 1) := by decide +kernel
theorem dX8_readRegister_58 : decode cX8_readRegister 58 = .ok (.bipush 100, 2) := by decide +kernel
theorem dX8_readRegister_60 : decode cX8_readRegister 60 = .ok (.sipush 255, 3) := by decide +kernel
theorem dX8_readRegister_63 : decode cX8_readRegister 63 = .ok (.invokevirtual 55, 3) := by decide +kernel
theorem dX8_readRegister_66 : decode cX8_readRegister 66 = .ok (.istore_n 3, 1) := by decide +kernel
theorem dX8_readRegister_67 : decode cX8_readRegister 67 = .ok (.iload_n 3, 1) := by decide +kernel
theorem dX8_readRegister_68 : decode cX8_readRegister 68 = .ok (.ldc 41, 2) := by decide +kernel
theorem dX8_readRegister_70 : decode cX8_readRegister 70 = .ok (.if_icmp .ne 5, 3) := by decide +kernel
theorem dX8_readRegister_73 : decode cX8_readRegister 73 = .ok (.iconst 0, 1) := by decide +kernel
theorem dX8_readRegister_74 : decode cX8_readRegister 74 = .ok (.ireturn, 1) := by decide +kernel
theorem dX8_readRegister_75 : decode cX8_readRegister 75 = .ok (.aload_n 1, 1) := by decide +kernel
theorem dX8_readRegister_76 : decode cX8_readRegister 76 = .ok (.getfield 108, 3) := by decide +kernel
theorem dX8_readRegister_79 : decode cX8_readRegister 79 = .ok (.iload_n 2, 1) := by decide +kernel
theorem dX8_readRegister_80 : decode cX8_readRegister 80 = .ok (.iload_n 3, 1) := by decide +kernel
theorem dX8_readRegister_81 : decode cX8_readRegister 81 = .ok (.iastore, 1) := by decide +kernel
theorem dX8_readRegister_82 : decode cX8_readRegister 82 = .ok (.aload_n 0, 1) := by decide +kernel
theorem dX8_readRegister_83 : decode cX8_readRegister 83 = .ok (.getfield 15, 3) := by decide +kernel
theorem dX8_readRegister_86 : decode cX8_readRegister 86 = .ok (.iload_n 2, 1) := by decide +kernel
theorem dX8_readRegister_87 : decode cX8_readRegister 87 = .ok (.iconst 1, 1) := by decide +kernel
theorem dX8_readRegister_88 : decode cX8_readRegister 88 = .ok (.bastore, 1) := by decide +kernel
theorem dX8_readRegister_89 : decode cX8_readRegister 89 = .ok (.aload_n 0, 1) := by decide +kernel
theorem dX8_readRegister_90 : decode cX8_readRegister 90 = .ok (.dup, 1) := by decide +kernel
theorem dX8_readRegister_91 : decode cX8_readRegister 91 = .ok (.getfield 48, 3) := by decide +kernel
theorem dX8_readRegister_94 : decode cX8_readRegister 94 = .ok (.iconst 1, 1) := by decide +kernel
theorem dX8_readRegister_95 : decode cX8_readRegister 95 = .ok (.iadd, 1) := by decide +kernel
theorem dX8_readRegister_96 : decode cX8_readRegister 96 = .ok (.putfield 48, 3) := by decide +kernel
theorem dX8_readRegister_99 : decode cX8_readRegister 99 = .ok (.iconst 1, 1) := by decide +kernel
theorem dX8_readRegister_100 : decode cX8_readRegister 100 = .ok (.ireturn, 1) := by decide +kernel
set_option maxRecDepth 20000 in
theorem ggX8_readNumber_X8_digitHere : GoodIn wsX8_readNumber wsX8_digitHere := goodIn_r _ [7, 1, 8, 9, 10, 6, 11, 2, 12, 13, 14, 15, 16, 17, 18, 19, 20] (by decide +kernel) (by decide +kernel)
set_option maxRecDepth 20000 in
theorem gX8_readNumber_X8_digitHere : GoodIn wsX8_readNumber (wsV RX8 96 RX8 yX8_digitHere wsX8_digitHere) := goodIn_app (goodIn_of _ (by decide +kernel)) ggX8_readNumber_X8_digitHere
theorem dX8_readNumber_0 : decode cX8_readNumber 0 = .ok (.iconst 0, 1) := by decide +kernel
theorem dX8_readNumber_1 : decode cX8_readNumber 1 = .ok (.istore_n 3, 1) := by decide +kernel
theorem dX8_readNumber_2 : decode cX8_readNumber 2 = .ok (.iload_n 1, 1) := by decide +kernel
theorem dX8_readNumber_3 : decode cX8_readNumber 3 = .ok (.istore 4, 2) := by decide +kernel
theorem dX8_readNumber_5 : decode cX8_readNumber 5 = .ok (.iload 4, 2) := by decide +kernel
theorem dX8_readNumber_7 : decode cX8_readNumber 7 = .ok (.ifCond .le 58, 3) := by decide +kernel
theorem dX8_readNumber_10 : decode cX8_readNumber 10 = .ok (.aload_n 0, 1) := by decide +kernel
theorem dX8_readNumber_11 : decode cX8_readNumber 11 = .ok (.invokevirtual 96, 3) := by decide +kernel
theorem dX8_readNumber_14 : decode cX8_readNumber 14 = .ok (.istore 5, 2) := by decide +kernel
theorem dX8_readNumber_16 : decode cX8_readNumber 16 = .ok (.iload 5, 2) := by decide +kernel
theorem dX8_readNumber_18 : decode cX8_readNumber 18 = .ok (.ldc 41, 2) := by decide +kernel
theorem dX8_readNumber_20 : decode cX8_readNumber 20 = .ok (.if_icmp .eq 14, 3) := by decide +kernel
theorem dX8_readNumber_23 : decode cX8_readNumber 23 = .ok (.iload_n 3, 1) := by decide +kernel
theorem dX8_readNumber_24 : decode cX8_readNumber 24 = .ok (.iload 5, 2) := by decide +kernel
theorem dX8_readNumber_26 : decode cX8_readNumber 26 = .ok (.iload 4, 2) := by decide +kernel
theorem dX8_readNumber_28 : decode cX8_readNumber 28 = .ok (.imul, 1) := by decide +kernel
theorem dX8_readNumber_29 : decode cX8_readNumber 29 = .ok (.iadd, 1) := by decide +kernel
theorem dX8_readNumber_30 : decode cX8_readNumber 30 = .ok (.iload_n 2, 1) := by decide +kernel
theorem dX8_readNumber_31 : decode cX8_readNumber 31 = .ok (.if_icmp .le 6, 3) := by decide +kernel
theorem dX8_readNumber_34 : decode cX8_readNumber 34 = .ok (.ldc 41, 2) := by decide +kernel
theorem dX8_readNumber_36 : decode cX8_readNumber 36 = .ok (.ireturn, 1) := by decide +kernel
theorem dX8_readNumber_37 : decode cX8_readNumber 37 = .ok (.iload_n 3, 1) := by decide +kernel
theorem dX8_readNumber_38 : decode cX8_readNumber 38 = .ok (.iload 5, 2) := by decide +kernel
theorem dX8_readNumber_40 : decode cX8_readNumber 40 = .ok (.iload 4, 2) := by decide +kernel
theorem dX8_readNumber_42 : decode cX8_readNumber 42 = .ok (.imul, 1) := by decide +kernel
theorem dX8_readNumber_43 : decode cX8_readNumber 43 = .ok (.iadd, 1) := by decide +kernel
theorem dX8_readNumber_44 : decode cX8_readNumber 44 = .ok (.istore_n 3, 1) := by decide +kernel
theorem dX8_readNumber_45 : decode cX8_readNumber 45 = .ok (.aload_n 0, 1) := by decide +kernel
theorem dX8_readNumber_46 : decode cX8_readNumber 46 = .ok (.dup, 1) := by decide +kernel
theorem dX8_readNumber_47 : decode cX8_readNumber 47 = .ok (.getfield 35, 3) := by decide +kernel
theorem dX8_readNumber_50 : decode cX8_readNumber 50 = .ok (.iconst 1, 1) := by decide +kernel
theorem dX8_readNumber_51 : decode cX8_readNumber 51 = .ok (.iadd, 1) := by decide +kernel
theorem dX8_readNumber_52 : decode cX8_readNumber 52 = .ok (.putfield 35, 3) := by decide +kernel
theorem dX8_readNumber_55 : decode cX8_readNumber 55 = .ok (.iload 4, 2) := by decide +kernel
theorem dX8_readNumber_57 : decode cX8_readNumber 57 = .ok (.bipush 10, 2) := by decide +kernel
theorem dX8_readNumber_59 : decode cX8_readNumber 59 = .ok (.idiv, 1) := by decide +kernel
theorem dX8_readNumber_60 : decode cX8_readNumber 60 = .ok (.istore 4, 2) := by decide +kernel
theorem dX8_readNumber_62 : decode cX8_readNumber 62 = .ok (.goto (-57), 3) := by decide +kernel
theorem dX8_readNumber_65 : decode cX8_readNumber 65 = .ok (.iload_n 3, 1) := by decide +kernel
theorem dX8_readNumber_66 : decode cX8_readNumber 66 = .ok (.ireturn, 1) := by decide +kernel
theorem dX8_here_0 : decode cX8_here 0 = .ok (.aload_n 0, 1) := by decide +kernel
theorem dX8_here_1 : decode cX8_here 1 = .ok (.getfield 35, 3) := by decide +kernel
theorem dX8_here_4 : decode cX8_here 4 = .ok (.aload_n 0, 1) := by decide +kernel
theorem dX8_here_5 : decode cX8_here 5 = .ok (.getfield 19, 3) := by decide +kernel
theorem dX8_here_8 : decode cX8_here 8 = .ok (.if_icmp .ge 15, 3) := by decide +kernel
theorem dX8_here_11 : decode cX8_here 11 = .ok (.aload_n 0, 1) := by decide +kernel
theorem dX8_here_12 : decode cX8_here 12 = .ok (.getfield 9, 3) := by decide +kernel
theorem dX8_here_15 : decode cX8_here 15 = .ok (.aload_n 0, 1) := by decide +kernel
theorem dX8_here_16 : decode cX8_here 16 = .ok (.getfield 35, 3) := by decide +kernel
theorem dX8_here_19 : decode cX8_here 19 = .ok (.iaload, 1) := by decide +kernel
theorem dX8_here_20 : decode cX8_here 20 = .ok (.goto 5, 3) := by decide +kernel
theorem dX8_here_23 : decode cX8_here 23 = .ok (.ldc 41, 2) := by decide +kernel
theorem dX8_here_25 : decode cX8_here 25 = .ok (.ireturn, 1) := by decide +kernel
set_option maxRecDepth 20000 in
theorem ggX8_digitHere_X8_here : GoodIn wsX8_digitHere wsX8_here := goodIn_r _ [6, 7, 8, 9, 1, 10, 11, 12, 13, 14, 15, 16] (by decide +kernel) (by decide +kernel)
set_option maxRecDepth 20000 in
theorem gX8_digitHere_X8_here : GoodIn wsX8_digitHere (wsV RX8 51 RX8 yX8_here wsX8_here) := goodIn_app (goodIn_of _ (by decide +kernel)) ggX8_digitHere_X8_here
theorem dX8_digitHere_0 : decode cX8_digitHere 0 = .ok (.aload_n 0, 1) := by decide +kernel
theorem dX8_digitHere_1 : decode cX8_digitHere 1 = .ok (.invokevirtual 51, 3) := by decide +kernel
theorem dX8_digitHere_4 : decode cX8_digitHere 4 = .ok (.istore_n 1, 1) := by decide +kernel
theorem dX8_digitHere_5 : decode cX8_digitHere 5 = .ok (.iload_n 1, 1) := by decide +kernel
theorem dX8_digitHere_6 : decode cX8_digitHere 6 = .ok (.bipush 48, 2) := by decide +kernel
theorem dX8_digitHere_8 : decode cX8_digitHere 8 = .ok (.if_icmp .lt 16, 3) := by decide +kernel
theorem dX8_digitHere_11 : decode cX8_digitHere 11 = .ok (.iload_n 1, 1) := by decide +kernel
theorem dX8_digitHere_12 : decode cX8_digitHere 12 = .ok (.bipush 57, 2) := by decide +kernel
theorem dX8_digitHere_14 : decode cX8_digitHere 14 = .ok (.if_icmp .gt 10, 3) := by decide +kernel
theorem dX8_digitHere_17 : decode cX8_digitHere 17 = .ok (.iload_n 1, 1) := by decide +kernel
theorem dX8_digitHere_18 : decode cX8_digitHere 18 = .ok (.bipush 48, 2) := by decide +kernel
theorem dX8_digitHere_20 : decode cX8_digitHere 20 = .ok (.isub, 1) := by decide +kernel
theorem dX8_digitHere_21 : decode cX8_digitHere 21 = .ok (.goto 5, 3) := by decide +kernel
theorem dX8_digitHere_24 : decode cX8_digitHere 24 = .ok (.ldc 41, 2) := by decide +kernel
theorem dX8_digitHere_26 : decode cX8_digitHere 26 = .ok (.ireturn, 1) := by decide +kernel
set_option maxRecDepth 20000 in
theorem ggX9_init_X8_init : GoodIn wsX9_init wsX8_init := goodIn_r _ [22, 23, 2, 3, 24, 25, 26, 27, 130, 131, 132, 133, 134, 135, 136] (by decide +kernel) (by decide +kernel)
set_option maxRecDepth 20000 in
theorem gX9_init_X8_init_n9 : GoodIn wsX9_init (wsX8_init) := ggX9_init_X8_init
set_option maxRecDepth 20000 in
theorem ggX9_init_X5_init : GoodIn wsX9_init wsX5_init := goodIn_r _ [30, 31, 2, 3, 32, 33, 34, 35, 36, 37, 38, 39, 40, 41, 42, 43, 24, 44, 45, 46, 47, 48, 49, 50, 51, 52, 53, 54, 55, 56, 57, 58, 26, 59, 60, 61, 62, 63, 64, 65, 66, 67, 68, 10, 69, 70, 71, 72, 73, 74, 75, 76, 77, 78, 79, 80, 81, 82, 83, 84, 85, 86, 87, 88, 89, 90, 91, 92, 93, 94, 95, 96, 97, 98, 99, 100, 101, 102, 103, 104, 105, 106, 107, 108, 109, 110, 111, 112, 113, 114, 152, 153, 154, 155, 156, 157, 158, 142, 143, 144, 145, 146, 147, 159, 160, 161, 162, 163, 164, 165, 166, 167, 168, 169, 170, 171] (by decide +kernel) (by decide +kernel)
set_option maxRecDepth 20000 in
theorem gX9_init_X5_init : GoodIn wsX9_init (wsX5_init) := ggX9_init_X5_init
set_option maxRecDepth 20000 in
theorem ggX9_init_X2_init : GoodIn wsX9_init wsX2_init := goodIn_r _ [117, 118, 2, 3, 119, 120, 9, 10, 121, 29, 30, 31, 32, 33, 34, 35, 36, 37, 38, 39, 40, 41, 42, 43, 24, 44, 45, 46, 47, 48, 49, 50, 51, 52, 53, 54, 55, 56, 57, 58, 26, 59, 60, 61, 62, 63, 64, 65, 66, 67, 68, 69, 70, 71, 72, 73, 74, 75, 76, 77, 78, 79, 80, 81, 82, 83, 84, 85, 86, 87, 88, 89, 90, 91, 92, 93, 94, 95, 96, 97, 98, 99, 100, 101, 102, 103, 104, 105, 106, 107, 108, 109, 110, 111, 112, 113, 114, 148, 149, 142, 143, 144, 145, 146, 147, 152, 153, 154, 155, 156, 157, 158, 159, 160, 161, 162, 163, 164, 165, 166, 167, 168, 169, 170, 171] (by decide +kernel) (by decide +kernel)
set_option maxRecDepth 20000 in
theorem gX9_init_X2_init : GoodIn wsX9_init (wsX2_init) := ggX9_init_X2_init
set_option maxRecDepth 20000 in
theorem ggX9_init_X4_init : GoodIn wsX9_init wsX4_init := goodIn_r _ [124, 125, 2, 3, 126, 127, 26, 128, 9, 10, 129, 29, 30, 31, 32, 33, 34, 35, 36, 37, 38, 39, 40, 41, 42, 43, 24, 44, 45, 46, 47, 48, 49, 50, 51, 52, 53, 54, 55, 56, 57, 58, 59, 60, 61, 62, 63, 64, 65, 66, 67, 68, 69, 70, 71, 72, 73, 74, 75, 76, 77, 78, 79, 80, 81, 82, 83, 84, 85, 86, 87, 88, 89, 90, 91, 92, 93, 94, 95, 96, 97, 98, 99, 100, 101, 102, 103, 104, 105, 106, 107, 108, 109, 110, 111, 112, 113, 114, 150, 151, 142, 143, 144, 145, 146, 147, 152, 153, 154, 155, 156, 157, 158, 159, 160, 161, 162, 163, 164, 165, 166, 167, 168, 169, 170, 171] (by decide +kernel) (by decide +kernel)
set_option maxRecDepth 20000 in
theorem gX9_init_X4_init : GoodIn wsX9_init (wsX4_init) := ggX9_init_X4_init
theorem dX9_init_0 : decode cX9_init 0 = .ok (.aload_n 0, 1) := by decide +kernel
theorem dX9_init_1 : decode cX9_init 1 = .ok (.invokespecial 1, 3) := by decide +kernel
theorem dX9_init_4 : decode cX9_init 4 = .ok (.aload_n 0, 1) := by decide +kernel
theorem dX9_init_5 : decode cX9_init 5 = .ok (.new 7, 3) := by decide +kernel
theorem dX9_init_8 : decode cX9_init 8 = .ok (.dup, 1) := by decide +kernel
theorem dX9_init_9 : decode cX9_init 9 = .ok (.invokespecial 9, 3) := by decide +kernel
theorem dX9_init_12 : decode cX9_init 12 = .ok (.putfield 10, 3) := by decide +kernel
theorem dX9_init_15 : decode cX9_init 15 = .ok (.aload_n 0, 1) := by decide +kernel
theorem dX9_init_16 : decode cX9_init 16 = .ok (.new 16, 3) := by decide +kernel
theorem dX9_init_19 : decode cX9_init 19 = .ok (.dup, 1) := by decide +kernel
theorem dX9_init_20 : decode cX9_init 20 = .ok (.invokespecial 18, 3) := by decide +kernel
theorem dX9_init_23 : decode cX9_init 23 = .ok (.putfield 19, 3) := by decide +kernel
theorem dX9_init_26 : decode cX9_init 26 = .ok (.aload_n 0, 1) := by decide +kernel
theorem dX9_init_27 : decode cX9_init 27 = .ok (.new 16, 3) := by decide +kernel
theorem dX9_init_30 : decode cX9_init 30 = .ok (.dup, 1) := by decide +kernel
theorem dX9_init_31 : decode cX9_init 31 = .ok (.invokespecial 18, 3) := by decide +kernel
theorem dX9_init_34 : decode cX9_init 34 = .ok (.putfield 23, 3) := by decide +kernel
theorem dX9_init_37 : decode cX9_init 37 = .ok (.aload_n 0, 1) := by decide +kernel
theorem dX9_init_38 : decode cX9_init 38 = .ok (.new 26, 3) := by decide +kernel
theorem dX9_init_41 : decode cX9_init 41 = .ok (.dup, 1) := by decide +kernel
theorem dX9_init_42 : decode cX9_init 42 = .ok (.invokespecial 28, 3) := by decide +kernel
theorem dX9_init_45 : decode cX9_init 45 = .ok (.putfield 29, 3) := by decide +kernel
theorem dX9_init_48 : decode cX9_init 48 = .ok (.aload_n 0, 1) := by decide +kernel
theorem dX9_init_49 : decode cX9_init 49 = .ok (.new 33, 3) := by decide +kernel
theorem dX9_init_52 : decode cX9_init 52 = .ok (.dup, 1) := by decide +kernel
theorem dX9_init_53 : decode cX9_init 53 = .ok (.invokespecial 35, 3) := by decide +kernel
theorem dX9_init_56 : decode cX9_init 56 = .ok (.putfield 36, 3) := by decide +kernel
theorem dX9_init_59 : decode cX9_init 59 = .ok (.return_, 1) := by decide +kernel
set_option maxRecDepth 20000 in
theorem ggX9_append_X9_needRange : GoodIn wsX9_append wsX9_needRange := goodIn_ca (goodIn_r _ [8, 9, 10] (by decide +kernel) (by decide +kernel)) (goodIn_sub (fun _ h => List.mem_cons_of_mem _ (List.mem_append_right _ h)) (by decide +kernel))
set_option maxRecDepth 20000 in
theorem gX9_append_X9_needRange : GoodIn wsX9_append (va_wsS RX9 40 yX9_needRange wsX9_needRange) := goodIn_app (goodIn_of _ (by decide +kernel)) ggX9_append_X9_needRange
set_option maxRecDepth 20000 in
theorem ggX9_append_X8_add : GoodIn wsX9_append wsX8_add := goodIn_r _ [15, 16, 17, 23, 24, 25, 26, 27, 28, 29] (by decide +kernel) (by decide +kernel)
set_option maxRecDepth 20000 in
theorem gX9_append_X8_add : GoodIn wsX9_append (wsV RX9 55 RX8 yX8_add wsX8_add) := goodIn_app (goodIn_of _ (by decide +kernel)) ggX9_append_X8_add
theorem dX9_append_0 : decode cX9_append 0 = .ok (.iload_n 1, 1) := by decide +kernel
theorem dX9_append_1 : decode cX9_append 1 = .ok (.iconst 0, 1) := by decide +kernel
theorem dX9_append_2 : decode cX9_append 2 = .ok (.sipush 255, 3) := by decide +kernel
theorem dX9_append_5 : decode cX9_append 5 = .ok (.invokestatic 40, 3) := by decide +kernel
theorem dX9_append_8 : decode cX9_append 8 = .ok (.aload_n 0, 1) := by decide +kernel
theorem dX9_append_9 : decode cX9_append 9 = .ok (.getfield 10, 3) := by decide +kernel
theorem dX9_append_12 : decode cX9_append 12 = .ok (.getfield 44, 3) := by decide +kernel
theorem dX9_append_15 : decode cX9_append 15 = .ok (.bipush 60, 2) := by decide +kernel
theorem dX9_append_17 : decode cX9_append 17 = .ok (.if_icmp .lt 13, 3) := by decide +kernel
theorem dX9_append_20 : decode cX9_append 20 = .ok (.new 48, 3) := by decide +kernel
theorem dX9_append_23 : decode cX9_append 23 = .ok (.dup, 1) := by decide +kernel
theorem dX9_append_24 : decode cX9_append 24 = .ok (.ldc 50, 2) := by decide +kernel
theorem dX9_append_26 : decode cX9_append 26 = .ok (.invokespecial 52, 3) := by decide +kernel
theorem dX9_append_29 : decode cX9_append 29 = .ok (.athrow, 1) := by decide +kernel
theorem dX9_append_30 : decode cX9_append 30 = .ok (.aload_n 0, 1) := by decide +kernel
theorem dX9_append_31 : decode cX9_append 31 = .ok (.getfield 10, 3) := by decide +kernel
theorem dX9_append_34 : decode cX9_append 34 = .ok (.iload_n 1, 1) := by decide +kernel
theorem dX9_append_35 : decode cX9_append 35 = .ok (.invokevirtual 55, 3) := by decide +kernel
theorem dX9_append_38 : decode cX9_append 38 = .ok (.aload_n 0, 1) := by decide +kernel
theorem dX9_append_39 : decode cX9_append 39 = .ok (.getfield 10, 3) := by decide +kernel
theorem dX9_append_42 : decode cX9_append 42 = .ok (.getfield 44, 3) := by decide +kernel
theorem dX9_append_45 : decode cX9_append 45 = .ok (.ireturn, 1) := by decide +kernel
theorem dX9_clearText_0 : decode cX9_clearText 0 = .ok (.aload_n 0, 1) := by decide +kernel
theorem dX9_clearText_1 : decode cX9_clearText 1 = .ok (.getfield 10, 3) := by decide +kernel
theorem dX9_clearText_4 : decode cX9_clearText 4 = .ok (.getfield 44, 3) := by decide +kernel
theorem dX9_clearText_7 : decode cX9_clearText 7 = .ok (.istore_n 1, 1) := by decide +kernel
theorem dX9_clearText_8 : decode cX9_clearText 8 = .ok (.aload_n 0, 1) := by decide +kernel
theorem dX9_clearText_9 : decode cX9_clearText 9 = .ok (.getfield 10, 3) := by decide +kernel
theorem dX9_clearText_12 : decode cX9_clearText 12 = .ok (.iconst 0, 1) := by decide +kernel
theorem dX9_clearText_13 : decode cX9_clearText 13 = .ok (.putfield 44, 3) := by decide +kernel
theorem dX9_clearText_16 : decode cX9_clearText 16 = .ok (.iload_n 1, 1) := by decide +kernel
theorem dX9_clearText_17 : decode cX9_clearText 17 = .ok (.ireturn, 1) := by decide +kernel
set_option maxRecDepth 20000 in
theorem ggX9_errorPosition_X8_readInto : GoodIn wsX9_errorPosition wsX8_readInto := goodIn_r _ [7, 8, 9, 10, 11, 12, 13, 14, 15, 16, 17, 18, 19, 20, 21, 22, 23, 24, 25, 26, 27, 28, 29, 30, 31, 32, 33, 34, 35, 36, 37, 38, 39, 40, 41, 42, 43, 44, 45, 46, 47, 48, 49, 50, 51, 52, 53, 54, 55, 56, 57, 58, 59, 60, 61, 62, 63, 64, 65, 66, 67, 68, 69, 70, 71, 72, 73, 74, 6, 75, 76, 77, 78, 79, 80, 81, 82, 83, 84, 85, 86, 87, 88, 89, 90, 91, 92, 93, 94, 95, 96, 97, 98, 99, 100, 101, 102, 103, 104, 105, 106, 107, 108, 109, 110, 111, 112, 113, 114, 115, 116, 117, 118, 119, 120, 121, 127, 128, 129, 130, 131, 132, 133, 134, 135, 136, 137, 138, 139, 140, 141, 142, 143, 144, 145, 146, 147, 148, 149, 150, 151, 152, 153, 154, 155, 156, 157, 158, 159] (by decide +kernel) (by decide +kernel)
set_option maxRecDepth 20000 in
theorem gX9_errorPosition_X8_readInto : GoodIn wsX9_errorPosition (wsV RX9 59 RX8 yX8_readInto wsX8_readInto) := goodIn_app (goodIn_of _ (by decide +kernel)) ggX9_errorPosition_X8_readInto
theorem dX9_errorPosition_0 : decode cX9_errorPosition 0 = .ok (.aload_n 0, 1) := by decide +kernel
theorem dX9_errorPosition_1 : decode cX9_errorPosition 1 = .ok (.getfield 10, 3) := by decide +kernel
theorem dX9_errorPosition_4 : decode cX9_errorPosition 4 = .ok (.aload_n 0, 1) := by decide +kernel
theorem dX9_errorPosition_5 : decode cX9_errorPosition 5 = .ok (.getfield 23, 3) := by decide +kernel
theorem dX9_errorPosition_8 : decode cX9_errorPosition 8 = .ok (.invokevirtual 59, 3) := by decide +kernel
theorem dX9_errorPosition_11 : decode cX9_errorPosition 11 = .ok (.ireturn, 1) := by decide +kernel
set_option maxRecDepth 20000 in
theorem ggX9_load_X8_readInto : GoodIn wsX9_load wsX8_readInto := goodIn_r _ [13, 14, 15, 16, 17, 18, 19, 20, 21, 22, 23, 24, 25, 26, 27, 28, 29, 30, 31, 32, 33, 34, 35, 36, 37, 38, 39, 40, 41, 42, 43, 44, 45, 46, 47, 48, 49, 50, 51, 52, 53, 54, 55, 56, 57, 58, 59, 60, 61, 62, 63, 64, 65, 66, 67, 68, 69, 70, 71, 72, 73, 74, 75, 76, 77, 78, 79, 80, 12, 81, 82, 83, 84, 85, 86, 87, 88, 89, 90, 91, 92, 93, 94, 95, 96, 97, 98, 99, 100, 101, 102, 103, 104, 105, 106, 107, 108, 109, 110, 111, 112, 113, 114, 115, 116, 117, 118, 119, 120, 121, 122, 123, 124, 125, 126, 127, 180, 181, 182, 183, 184, 185, 186, 187, 188, 189, 190, 191, 192, 193, 194, 195, 196, 197, 198, 199, 200, 201, 202, 203, 204, 205, 206, 207, 208, 209, 210, 211, 212] (by decide +kernel) (by decide +kernel)
set_option maxRecDepth 20000 in
theorem gX9_load_X8_readInto : GoodIn wsX9_load (wsV RX9 59 RX8 yX8_readInto wsX8_readInto) := goodIn_app (goodIn_of _ (by decide +kernel)) ggX9_load_X8_readInto
set_option maxRecDepth 20000 in
theorem ggX9_load_X5_copyFrom : GoodIn wsX9_load wsX5_copyFrom := goodIn_r _ [131, 22, 23, 24, 25, 64, 132, 133, 134, 135, 26, 136, 137, 138, 30, 139, 40, 41, 42, 32, 33, 34, 35, 140, 141, 142, 46, 143, 48, 144, 49, 50, 51, 145, 146, 147, 55, 148, 57, 149, 150, 151, 152, 58, 59, 153, 154, 155, 68, 156, 76, 77, 71, 187, 188, 189, 190, 191, 192, 193, 194, 195, 196, 197, 198, 199, 200, 201, 202, 203, 204, 205, 206, 207, 208, 209, 210, 211, 212] (by decide +kernel) (by decide +kernel)
set_option maxRecDepth 20000 in
theorem gX9_load_X5_copyFrom : GoodIn wsX9_load (wsV RX9 66 RX5 yX5_copyFrom wsX5_copyFrom) := goodIn_app (goodIn_of _ (by decide +kernel)) ggX9_load_X5_copyFrom
set_option maxRecDepth 20000 in
theorem ggX9_load_X2_forget : GoodIn wsX9_load wsX2_forget := goodIn_r _ [161, 162, 213, 214] (by decide +kernel) (by decide +kernel)
set_option maxRecDepth 20000 in
theorem gX9_load_X2_forget : GoodIn wsX9_load (wsV RX9 70 RX2 yX2_forget wsX2_forget) := goodIn_app (goodIn_of _ (by decide +kernel)) ggX9_load_X2_forget
set_option maxRecDepth 20000 in
theorem ggX9_load_X4_empty : GoodIn wsX9_load wsX4_empty := goodIn_r _ [167, 168, 215, 216] (by decide +kernel) (by decide +kernel)
set_option maxRecDepth 20000 in
theorem gX9_load_X4_empty : GoodIn wsX9_load (wsV RX9 73 RX4 yX4_empty wsX4_empty) := goodIn_app (goodIn_of _ (by decide +kernel)) ggX9_load_X4_empty
set_option maxRecDepth 20000 in
theorem ggX9_load_X5_alarmsSet : GoodIn wsX9_load wsX5_alarmsSet := goodIn_r _ [172, 26, 173, 174, 187, 188, 189, 190, 191, 192, 210, 211, 212] (by decide +kernel) (by decide +kernel)
set_option maxRecDepth 20000 in
theorem gX9_load_X5_alarmsSet : GoodIn wsX9_load (wsV RX9 76 RX5 yX5_alarmsSet wsX5_alarmsSet) := goodIn_app (goodIn_of _ (by decide +kernel)) ggX9_load_X5_alarmsSet
theorem dX9_load_0 : decode cX9_load 0 = .ok (.aload_n 0, 1) := by decide +kernel
theorem dX9_load_1 : decode cX9_load 1 = .ok (.getfield 10, 3) := by decide +kernel
theorem dX9_load_4 : decode cX9_load 4 = .ok (.aload_n 0, 1) := by decide +kernel
theorem dX9_load_5 : decode cX9_load 5 = .ok (.getfield 23, 3) := by decide +kernel
theorem dX9_load_8 : decode cX9_load 8 = .ok (.invokevirtual 59, 3) := by decide +kernel
theorem dX9_load_11 : decode cX9_load 11 = .ok (.ldc 63, 2) := by decide +kernel
theorem dX9_load_13 : decode cX9_load 13 = .ok (.if_icmp .eq 13, 3) := by decide +kernel
theorem dX9_load_16 : decode cX9_load 16 = .ok (.new 48, 3) := by decide +kernel
theorem dX9_load_19 : decode cX9_load 19 = .ok (.dup, 1) := by decide +kernel
theorem dX9_load_20 : decode cX9_load 20 = .ok (.ldc 64, 2) := by decide +kernel
theorem dX9_load_22 : decode cX9_load 22 = .ok (.invokespecial 52, 3) := by decide +kernel
theorem dX9_load_25 : decode cX9_load 25 = .ok (.athrow, 1) := by decide +kernel
theorem dX9_load_26 : decode cX9_load 26 = .ok (.aload_n 0, 1) := by decide +kernel
theorem dX9_load_27 : decode cX9_load 27 = .ok (.getfield 19, 3) := by decide +kernel
theorem dX9_load_30 : decode cX9_load 30 = .ok (.aload_n 0, 1) := by decide +kernel
theorem dX9_load_31 : decode cX9_load 31 = .ok (.getfield 23, 3) := by decide +kernel
theorem dX9_load_34 : decode cX9_load 34 = .ok (.invokevirtual 66, 3) := by decide +kernel
theorem dX9_load_37 : decode cX9_load 37 = .ok (.aload_n 0, 1) := by decide +kernel
theorem dX9_load_38 : decode cX9_load 38 = .ok (.getfield 29, 3) := by decide +kernel
theorem dX9_load_41 : decode cX9_load 41 = .ok (.invokevirtual 70, 3) := by decide +kernel
theorem dX9_load_44 : decode cX9_load 44 = .ok (.aload_n 0, 1) := by decide +kernel
theorem dX9_load_45 : decode cX9_load 45 = .ok (.getfield 36, 3) := by decide +kernel
theorem dX9_load_48 : decode cX9_load 48 = .ok (.invokevirtual 73, 3) := by decide +kernel
theorem dX9_load_51 : decode cX9_load 51 = .ok (.aload_n 0, 1) := by decide +kernel
theorem dX9_load_52 : decode cX9_load 52 = .ok (.getfield 19, 3) := by decide +kernel
theorem dX9_load_55 : decode cX9_load 55 = .ok (.invokevirtual 76, 3) := by decide +kernel
theorem dX9_load_58 : decode cX9_load 58 = .ok (.ireturn, 1) := by decide +kernel
set_option maxRecDepth 20000 in
theorem ggX9_about_X9_needRange : GoodIn wsX9_about wsX9_needRange := goodIn_ca (goodIn_r _ [5, 6, 7] (by decide +kernel) (by decide +kernel)) (goodIn_sub (fun _ h => List.mem_cons_of_mem _ (List.mem_append_right _ h)) (by decide +kernel))
set_option maxRecDepth 20000 in
theorem gX9_about_X9_needRange : GoodIn wsX9_about (va_wsS RX9 40 yX9_needRange wsX9_needRange) := goodIn_app (goodIn_of _ (by decide +kernel)) ggX9_about_X9_needRange
set_option maxRecDepth 20000 in
theorem ggX9_about_X5_tell : GoodIn wsX9_about wsX5_tell := goodIn_r _ [12, 13, 14, 15, 16, 17, 18, 19, 20, 21, 22, 23, 24, 25, 26, 27, 28, 29, 11, 30, 31, 32, 33, 34, 35, 36, 37, 38, 39, 40, 41, 42, 43, 44, 45, 46, 47, 48, 49, 50, 51, 52, 53, 54, 55, 61, 62, 63, 64, 65, 66, 67, 68, 69, 70, 71, 72, 73, 74, 75, 76, 77, 78, 79, 80, 81, 82, 83, 84, 85, 86] (by decide +kernel) (by decide +kernel)
set_option maxRecDepth 20000 in
theorem gX9_about_X5_tell : GoodIn wsX9_about (wsV RX9 80 RX5 yX5_tell wsX5_tell) := goodIn_app (goodIn_of _ (by decide +kernel)) ggX9_about_X5_tell
theorem dX9_about_0 : decode cX9_about 0 = .ok (.iload_n 1, 1) := by decide +kernel
theorem dX9_about_1 : decode cX9_about 1 = .ok (.iconst 0, 1) := by decide +kernel
theorem dX9_about_2 : decode cX9_about 2 = .ok (.bipush 14, 2) := by decide +kernel
theorem dX9_about_4 : decode cX9_about 4 = .ok (.invokestatic 40, 3) := by decide +kernel
theorem dX9_about_7 : decode cX9_about 7 = .ok (.aload_n 0, 1) := by decide +kernel
theorem dX9_about_8 : decode cX9_about 8 = .ok (.getfield 19, 3) := by decide +kernel
theorem dX9_about_11 : decode cX9_about 11 = .ok (.iload_n 1, 1) := by decide +kernel
theorem dX9_about_12 : decode cX9_about 12 = .ok (.invokevirtual 80, 3) := by decide +kernel
theorem dX9_about_15 : decode cX9_about 15 = .ok (.ireturn, 1) := by decide +kernel
set_option maxRecDepth 20000 in
theorem ggX9_account_X9_needRange : GoodIn wsX9_account wsX9_needRange := goodIn_ca (goodIn_r _ [10, 11, 12] (by decide +kernel) (by decide +kernel)) (goodIn_sub (fun _ h => List.mem_cons_of_mem _ (List.mem_append_right _ h)) (by decide +kernel))
set_option maxRecDepth 20000 in
theorem gX9_account_X9_needRange : GoodIn wsX9_account (va_wsS RX9 40 yX9_needRange wsX9_needRange) := goodIn_app (goodIn_of _ (by decide +kernel)) ggX9_account_X9_needRange
theorem dX9_account_0 : decode cX9_account 0 = .ok (.iload_n 1, 1) := by decide +kernel
theorem dX9_account_1 : decode cX9_account 1 = .ok (.iconst 0, 1) := by decide +kernel
theorem dX9_account_2 : decode cX9_account 2 = .ok (.iconst 5, 1) := by decide +kernel
theorem dX9_account_3 : decode cX9_account 3 = .ok (.invokestatic 40, 3) := by decide +kernel
theorem dX9_account_6 : decode cX9_account 6 = .ok (.iload_n 1, 1) := by decide +kernel
theorem dX9_account_7 : decode cX9_account 7 = .ok (.iconst 4, 1) := by decide +kernel
theorem dX9_account_8 : decode cX9_account 8 = .ok (.if_icmp .ge 17, 3) := by decide +kernel
theorem dX9_account_11 : decode cX9_account 11 = .ok (.aload_n 0, 1) := by decide +kernel
theorem dX9_account_12 : decode cX9_account 12 = .ok (.getfield 19, 3) := by decide +kernel
theorem dX9_account_15 : decode cX9_account 15 = .ok (.getfield 84, 3) := by decide +kernel
theorem dX9_account_18 : decode cX9_account 18 = .ok (.getfield 88, 3) := by decide +kernel
theorem dX9_account_21 : decode cX9_account 21 = .ok (.iload_n 1, 1) := by decide +kernel
theorem dX9_account_22 : decode cX9_account 22 = .ok (.iaload, 1) := by decide +kernel
theorem dX9_account_23 : decode cX9_account 23 = .ok (.i2l, 1) := by decide +kernel
theorem dX9_account_24 : decode cX9_account 24 = .ok (.lreturn, 1) := by decide +kernel
theorem dX9_account_25 : decode cX9_account 25 = .ok (.iload_n 1, 1) := by decide +kernel
theorem dX9_account_26 : decode cX9_account 26 = .ok (.iconst 4, 1) := by decide +kernel
theorem dX9_account_27 : decode cX9_account 27 = .ok (.if_icmp .ne 16, 3) := by decide +kernel
theorem dX9_account_30 : decode cX9_account 30 = .ok (.aload_n 0, 1) := by decide +kernel
theorem dX9_account_31 : decode cX9_account 31 = .ok (.getfield 19, 3) := by decide +kernel
theorem dX9_account_34 : decode cX9_account 34 = .ok (.getfield 94, 3) := by decide +kernel
theorem dX9_account_37 : decode cX9_account 37 = .ok (.getfield 98, 3) := by decide +kernel
theorem dX9_account_40 : decode cX9_account 40 = .ok (.goto 13, 3) := by decide +kernel
theorem dX9_account_43 : decode cX9_account 43 = .ok (.aload_n 0, 1) := by decide +kernel
theorem dX9_account_44 : decode cX9_account 44 = .ok (.getfield 19, 3) := by decide +kernel
theorem dX9_account_47 : decode cX9_account 47 = .ok (.getfield 94, 3) := by decide +kernel
theorem dX9_account_50 : decode cX9_account 50 = .ok (.getfield 104, 3) := by decide +kernel
theorem dX9_account_53 : decode cX9_account 53 = .ok (.lreturn, 1) := by decide +kernel
set_option maxRecDepth 20000 in
theorem ggX9_register_X9_needIndex : GoodIn wsX9_register wsX9_needIndex := goodIn_ca (goodIn_r _ [6, 7, 8] (by decide +kernel) (by decide +kernel)) (goodIn_sub (fun _ h => List.mem_cons_of_mem _ (List.mem_append_right _ h)) (by decide +kernel))
set_option maxRecDepth 20000 in
theorem gX9_register_X9_needIndex : GoodIn wsX9_register (va_wsS RX9 107 yX9_needIndex wsX9_needIndex) := goodIn_app (goodIn_of _ (by decide +kernel)) ggX9_register_X9_needIndex
theorem dX9_register_0 : decode cX9_register 0 = .ok (.iload_n 1, 1) := by decide +kernel
theorem dX9_register_1 : decode cX9_register 1 = .ok (.bipush 8, 2) := by decide +kernel
theorem dX9_register_3 : decode cX9_register 3 = .ok (.invokestatic 107, 3) := by decide +kernel
theorem dX9_register_6 : decode cX9_register 6 = .ok (.aload_n 0, 1) := by decide +kernel
theorem dX9_register_7 : decode cX9_register 7 = .ok (.getfield 19, 3) := by decide +kernel
theorem dX9_register_10 : decode cX9_register 10 = .ok (.getfield 111, 3) := by decide +kernel
theorem dX9_register_13 : decode cX9_register 13 = .ok (.iload_n 1, 1) := by decide +kernel
theorem dX9_register_14 : decode cX9_register 14 = .ok (.iaload, 1) := by decide +kernel
theorem dX9_register_15 : decode cX9_register 15 = .ok (.ireturn, 1) := by decide +kernel
set_option maxRecDepth 20000 in
theorem ggX9_isGuarded_X9_needIndex : GoodIn wsX9_isGuarded wsX9_needIndex := goodIn_ca (goodIn_r _ [7, 8, 9] (by decide +kernel) (by decide +kernel)) (goodIn_sub (fun _ h => List.mem_cons_of_mem _ (List.mem_append_right _ h)) (by decide +kernel))
set_option maxRecDepth 20000 in
theorem gX9_isGuarded_X9_needIndex : GoodIn wsX9_isGuarded (va_wsS RX9 107 yX9_needIndex wsX9_needIndex) := goodIn_app (goodIn_of _ (by decide +kernel)) ggX9_isGuarded_X9_needIndex
theorem dX9_isGuarded_0 : decode cX9_isGuarded 0 = .ok (.iload_n 1, 1) := by decide +kernel
theorem dX9_isGuarded_1 : decode cX9_isGuarded 1 = .ok (.iconst 3, 1) := by decide +kernel
theorem dX9_isGuarded_2 : decode cX9_isGuarded 2 = .ok (.invokestatic 107, 3) := by decide +kernel
theorem dX9_isGuarded_5 : decode cX9_isGuarded 5 = .ok (.aload_n 0, 1) := by decide +kernel
theorem dX9_isGuarded_6 : decode cX9_isGuarded 6 = .ok (.getfield 19, 3) := by decide +kernel
theorem dX9_isGuarded_9 : decode cX9_isGuarded 9 = .ok (.getfield 114, 3) := by decide +kernel
theorem dX9_isGuarded_12 : decode cX9_isGuarded 12 = .ok (.getfield 118, 3) := by decide +kernel
theorem dX9_isGuarded_15 : decode cX9_isGuarded 15 = .ok (.iload_n 1, 1) := by decide +kernel
theorem dX9_isGuarded_16 : decode cX9_isGuarded 16 = .ok (.baload, 1) := by decide +kernel
theorem dX9_isGuarded_17 : decode cX9_isGuarded 17 = .ok (.ireturn, 1) := by decide +kernel
set_option maxRecDepth 20000 in
theorem ggX9_row_X9_needIndex : GoodIn wsX9_row wsX9_needIndex := goodIn_ca (goodIn_r _ [7, 8, 9] (by decide +kernel) (by decide +kernel)) (goodIn_sub (fun _ h => List.mem_cons_of_mem _ (List.mem_append_left _ (List.mem_append_right _ h))) (by decide +kernel))
set_option maxRecDepth 20000 in
theorem gX9_row_X9_needIndex : GoodIn wsX9_row (va_wsS RX9 107 yX9_needIndex wsX9_needIndex) := goodIn_app (goodIn_of _ (by decide +kernel)) ggX9_row_X9_needIndex
set_option maxRecDepth 20000 in
theorem ggX9_row_X9_needRange : GoodIn wsX9_row wsX9_needRange := goodIn_ca (goodIn_r _ [12, 13, 14] (by decide +kernel) (by decide +kernel)) (goodIn_sub (fun _ h => List.mem_cons_of_mem _ (List.mem_append_right _ h)) (by decide +kernel))
set_option maxRecDepth 20000 in
theorem gX9_row_X9_needRange : GoodIn wsX9_row (va_wsS RX9 40 yX9_needRange wsX9_needRange) := goodIn_app (goodIn_of _ (by decide +kernel)) ggX9_row_X9_needRange
set_option maxRecDepth 20000 in
theorem ggX9_row_X7_tellRow : GoodIn wsX9_row wsX7_tellRow := goodIn_r _ [19, 20, 21, 22, 34, 35, 36, 37, 38, 39] (by decide +kernel) (by decide +kernel)
set_option maxRecDepth 20000 in
theorem gX9_row_X7_tellRow : GoodIn wsX9_row (wsV RX9 127 RX7 yX7_tellRow wsX7_tellRow) := goodIn_app (goodIn_of _ (by decide +kernel)) ggX9_row_X7_tellRow
theorem dX9_row_0 : decode cX9_row 0 = .ok (.iload_n 1, 1) := by decide +kernel
theorem dX9_row_1 : decode cX9_row 1 = .ok (.aload_n 0, 1) := by decide +kernel
theorem dX9_row_2 : decode cX9_row 2 = .ok (.getfield 19, 3) := by decide +kernel
theorem dX9_row_5 : decode cX9_row 5 = .ok (.getfield 114, 3) := by decide +kernel
theorem dX9_row_8 : decode cX9_row 8 = .ok (.getfield 124, 3) := by decide +kernel
theorem dX9_row_11 : decode cX9_row 11 = .ok (.invokestatic 107, 3) := by decide +kernel
theorem dX9_row_14 : decode cX9_row 14 = .ok (.iload_n 2, 1) := by decide +kernel
theorem dX9_row_15 : decode cX9_row 15 = .ok (.iconst 0, 1) := by decide +kernel
theorem dX9_row_16 : decode cX9_row 16 = .ok (.iconst 2, 1) := by decide +kernel
theorem dX9_row_17 : decode cX9_row 17 = .ok (.invokestatic 40, 3) := by decide +kernel
theorem dX9_row_20 : decode cX9_row 20 = .ok (.aload_n 0, 1) := by decide +kernel
theorem dX9_row_21 : decode cX9_row 21 = .ok (.getfield 19, 3) := by decide +kernel
theorem dX9_row_24 : decode cX9_row 24 = .ok (.getfield 114, 3) := by decide +kernel
theorem dX9_row_27 : decode cX9_row 27 = .ok (.iload_n 1, 1) := by decide +kernel
theorem dX9_row_28 : decode cX9_row 28 = .ok (.iload_n 2, 1) := by decide +kernel
theorem dX9_row_29 : decode cX9_row 29 = .ok (.invokevirtual 127, 3) := by decide +kernel
theorem dX9_row_32 : decode cX9_row 32 = .ok (.ireturn, 1) := by decide +kernel
set_option maxRecDepth 20000 in
theorem ggX9_alarm_X9_needIndex : GoodIn wsX9_alarm wsX9_needIndex := goodIn_ca (goodIn_r _ [6, 7, 8] (by decide +kernel) (by decide +kernel)) (goodIn_sub (fun _ h => List.mem_cons_of_mem _ (List.mem_append_left _ (List.mem_append_right _ h))) (by decide +kernel))
set_option maxRecDepth 20000 in
theorem gX9_alarm_X9_needIndex : GoodIn wsX9_alarm (va_wsS RX9 107 yX9_needIndex wsX9_needIndex) := goodIn_app (goodIn_of _ (by decide +kernel)) ggX9_alarm_X9_needIndex
set_option maxRecDepth 20000 in
theorem ggX9_alarm_X9_needRange : GoodIn wsX9_alarm wsX9_needRange := goodIn_ca (goodIn_r _ [11, 12, 13] (by decide +kernel) (by decide +kernel)) (goodIn_sub (fun _ h => List.mem_cons_of_mem _ (List.mem_append_right _ h)) (by decide +kernel))
set_option maxRecDepth 20000 in
theorem gX9_alarm_X9_needRange : GoodIn wsX9_alarm (va_wsS RX9 40 yX9_needRange wsX9_needRange) := goodIn_app (goodIn_of _ (by decide +kernel)) ggX9_alarm_X9_needRange
set_option maxRecDepth 20000 in
theorem ggX9_alarm_X0_tell : GoodIn wsX9_alarm wsX0_tell := goodIn_r _ [18, 19, 20, 21, 33, 34, 35] (by decide +kernel) (by decide +kernel)
set_option maxRecDepth 20000 in
theorem gX9_alarm_X0_tell : GoodIn wsX9_alarm (wsV RX9 135 RX0 yX0_tell wsX0_tell) := goodIn_app (goodIn_of _ (by decide +kernel)) ggX9_alarm_X0_tell
theorem dX9_alarm_0 : decode cX9_alarm 0 = .ok (.iload_n 1, 1) := by decide +kernel
theorem dX9_alarm_1 : decode cX9_alarm 1 = .ok (.iconst 4, 1) := by decide +kernel
theorem dX9_alarm_2 : decode cX9_alarm 2 = .ok (.invokestatic 107, 3) := by decide +kernel
theorem dX9_alarm_5 : decode cX9_alarm 5 = .ok (.iload_n 2, 1) := by decide +kernel
theorem dX9_alarm_6 : decode cX9_alarm 6 = .ok (.iconst 0, 1) := by decide +kernel
theorem dX9_alarm_7 : decode cX9_alarm 7 = .ok (.iconst 2, 1) := by decide +kernel
theorem dX9_alarm_8 : decode cX9_alarm 8 = .ok (.invokestatic 40, 3) := by decide +kernel
theorem dX9_alarm_11 : decode cX9_alarm 11 = .ok (.aload_n 0, 1) := by decide +kernel
theorem dX9_alarm_12 : decode cX9_alarm 12 = .ok (.getfield 19, 3) := by decide +kernel
theorem dX9_alarm_15 : decode cX9_alarm 15 = .ok (.getfield 131, 3) := by decide +kernel
theorem dX9_alarm_18 : decode cX9_alarm 18 = .ok (.iload_n 1, 1) := by decide +kernel
theorem dX9_alarm_19 : decode cX9_alarm 19 = .ok (.aaload, 1) := by decide +kernel
theorem dX9_alarm_20 : decode cX9_alarm 20 = .ok (.iload_n 2, 1) := by decide +kernel
theorem dX9_alarm_21 : decode cX9_alarm 21 = .ok (.invokevirtual 135, 3) := by decide +kernel
theorem dX9_alarm_24 : decode cX9_alarm 24 = .ok (.ireturn, 1) := by decide +kernel
set_option maxRecDepth 20000 in
theorem ggX9_pass_X9_needRange : GoodIn wsX9_pass wsX9_needRange := goodIn_ca (goodIn_r _ [8, 9, 10] (by decide +kernel) (by decide +kernel)) (goodIn_sub (fun _ h => List.mem_cons_of_mem _ (List.mem_append_right _ h)) (by decide +kernel))
set_option maxRecDepth 20000 in
theorem gX9_pass_X9_needRange : GoodIn wsX9_pass (va_wsS RX9 40 yX9_needRange wsX9_needRange) := goodIn_app (goodIn_of _ (by decide +kernel)) ggX9_pass_X9_needRange
set_option maxRecDepth 20000 in
theorem ggX9_pass_X2_remember : GoodIn wsX9_pass wsX2_remember := goodIn_r _ [15, 16, 17, 18, 19, 20, 14, 21, 22, 23, 24, 25, 26, 27, 28, 29, 30, 31, 32, 33, 34, 35, 36, 37, 38, 39, 40, 41, 42, 43, 44, 45, 46, 47, 48, 49, 50, 51, 52, 53, 54, 55, 56, 57, 58, 59, 60, 61, 62, 63, 64, 65, 66, 67, 68, 69, 70, 71, 72, 73, 74, 75, 76, 77, 78, 162, 163, 149, 150, 151, 152, 153, 154, 155, 156, 157, 158, 159, 160, 161, 164, 165, 166, 167, 168, 169, 170, 171, 172, 173, 174, 175, 176] (by decide +kernel) (by decide +kernel)
set_option maxRecDepth 20000 in
theorem gX9_pass_X2_remember : GoodIn wsX9_pass (wsV RX9 138 RX2 yX2_remember wsX2_remember) := goodIn_app (goodIn_of _ (by decide +kernel)) ggX9_pass_X2_remember
set_option maxRecDepth 20000 in
theorem ggX9_pass_X5_passMinutes : GoodIn wsX9_pass wsX5_passMinutes := goodIn_r _ [82, 83, 84, 85, 25, 86, 29, 27, 87, 88, 89, 52, 90, 56, 57, 91, 92, 93, 94, 54, 95, 96, 97, 98, 99, 100, 101, 102, 103, 104, 28, 30, 105, 36, 106, 107, 108, 109, 40, 110, 42, 43, 44, 111, 112, 113, 114, 31, 115, 116, 117, 118, 119, 120, 121, 74, 122, 77, 78, 123, 124, 125, 126, 127, 128, 129, 130, 131, 132, 133, 134, 45, 46, 47, 48, 135, 136, 137, 138, 139, 76, 140, 141, 142, 143, 149, 150, 151, 152, 153, 154, 164, 165, 166, 167, 168, 169, 170, 171, 172, 173, 174, 175, 176, 155, 156, 157, 158, 159, 160, 161] (by decide +kernel) (by decide +kernel)
set_option maxRecDepth 20000 in
theorem gX9_pass_X5_passMinutes : GoodIn wsX9_pass (wsV RX9 141 RX5 yX5_passMinutes wsX5_passMinutes) := goodIn_app (goodIn_of _ (by decide +kernel)) ggX9_pass_X5_passMinutes
theorem dX9_pass_0 : decode cX9_pass 0 = .ok (.iload_n 1, 1) := by decide +kernel
theorem dX9_pass_1 : decode cX9_pass 1 = .ok (.iconst 1, 1) := by decide +kernel
theorem dX9_pass_2 : decode cX9_pass 2 = .ok (.sipush 1440, 3) := by decide +kernel
theorem dX9_pass_5 : decode cX9_pass 5 = .ok (.invokestatic 40, 3) := by decide +kernel
theorem dX9_pass_8 : decode cX9_pass 8 = .ok (.aload_n 0, 1) := by decide +kernel
theorem dX9_pass_9 : decode cX9_pass 9 = .ok (.getfield 29, 3) := by decide +kernel
theorem dX9_pass_12 : decode cX9_pass 12 = .ok (.aload_n 0, 1) := by decide +kernel
theorem dX9_pass_13 : decode cX9_pass 13 = .ok (.getfield 19, 3) := by decide +kernel
theorem dX9_pass_16 : decode cX9_pass 16 = .ok (.invokevirtual 138, 3) := by decide +kernel
theorem dX9_pass_19 : decode cX9_pass 19 = .ok (.aload_n 0, 1) := by decide +kernel
theorem dX9_pass_20 : decode cX9_pass 20 = .ok (.getfield 19, 3) := by decide +kernel
theorem dX9_pass_23 : decode cX9_pass 23 = .ok (.iload_n 1, 1) := by decide +kernel
theorem dX9_pass_24 : decode cX9_pass 24 = .ok (.invokevirtual 141, 3) := by decide +kernel
theorem dX9_pass_27 : decode cX9_pass 27 = .ok (.aload_n 0, 1) := by decide +kernel
theorem dX9_pass_28 : decode cX9_pass 28 = .ok (.getfield 19, 3) := by decide +kernel
theorem dX9_pass_31 : decode cX9_pass 31 = .ok (.getfield 94, 3) := by decide +kernel
theorem dX9_pass_34 : decode cX9_pass 34 = .ok (.getfield 144, 3) := by decide +kernel
theorem dX9_pass_37 : decode cX9_pass 37 = .ok (.ireturn, 1) := by decide +kernel
set_option maxRecDepth 20000 in
theorem ggX9_level_X9_needRange : GoodIn wsX9_level wsX9_needRange := goodIn_ca (goodIn_r _ [7, 8, 9] (by decide +kernel) (by decide +kernel)) (goodIn_sub (fun _ h => List.mem_cons_of_mem _ (List.mem_append_right _ h)) (by decide +kernel))
set_option maxRecDepth 20000 in
theorem gX9_level_X9_needRange : GoodIn wsX9_level (va_wsS RX9 40 yX9_needRange wsX9_needRange) := goodIn_app (goodIn_of _ (by decide +kernel)) ggX9_level_X9_needRange
set_option maxRecDepth 20000 in
theorem ggX9_level_X2_remember : GoodIn wsX9_level wsX2_remember := goodIn_r _ [14, 15, 16, 17, 18, 19, 13, 20, 21, 22, 23, 24, 25, 26, 27, 28, 29, 30, 31, 32, 33, 34, 35, 36, 37, 38, 39, 40, 41, 42, 43, 44, 45, 46, 47, 48, 49, 50, 51, 52, 53, 54, 55, 56, 57, 58, 59, 60, 61, 62, 63, 64, 65, 66, 67, 68, 69, 70, 71, 72, 73, 74, 75, 76, 77, 126, 127, 120, 121, 122, 123, 124, 125, 128, 129, 130, 131, 132, 133, 134, 135, 136, 137, 138, 139, 140, 141, 142, 143, 144, 145, 146, 147] (by decide +kernel) (by decide +kernel)
set_option maxRecDepth 20000 in
theorem gX9_level_X2_remember : GoodIn wsX9_level (wsV RX9 138 RX2 yX2_remember wsX2_remember) := goodIn_app (goodIn_of _ (by decide +kernel)) ggX9_level_X2_remember
set_option maxRecDepth 20000 in
theorem ggX9_level_X5_changeLevel : GoodIn wsX9_level wsX5_changeLevel := goodIn_r _ [81, 28, 82, 83, 84, 85, 51, 86, 55, 56, 87, 88, 89, 24, 90, 91, 92, 93, 94, 95, 27, 29, 96, 35, 97, 98, 99, 100, 39, 101, 41, 42, 43, 102, 103, 104, 105, 30, 106, 107, 108, 109, 110, 111, 112, 73, 113, 76, 77, 120, 121, 122, 123, 124, 125, 135, 136, 137, 138, 139, 140, 141, 142, 143, 144, 145, 146, 147, 128, 129, 130, 131, 132, 133, 134] (by decide +kernel) (by decide +kernel)
set_option maxRecDepth 20000 in
theorem gX9_level_X5_changeLevel : GoodIn wsX9_level (wsV RX9 147 RX5 yX5_changeLevel wsX5_changeLevel) := goodIn_app (goodIn_of _ (by decide +kernel)) ggX9_level_X5_changeLevel
set_option maxRecDepth 20000 in
theorem ggX9_level_X6_domain : GoodIn wsX9_level wsX6_domain := goodIn_r _ [86, 55, 56, 135, 136, 137, 138] (by decide +kernel) (by decide +kernel)
set_option maxRecDepth 20000 in
theorem gX9_level_X6_domain : GoodIn wsX9_level (wsV RX9 150 RX6 yX6_domain wsX6_domain) := goodIn_app (goodIn_of _ (by decide +kernel)) ggX9_level_X6_domain
theorem dX9_level_0 : decode cX9_level 0 = .ok (.iload_n 1, 1) := by decide +kernel
theorem dX9_level_1 : decode cX9_level 1 = .ok (.iconst 0, 1) := by decide +kernel
theorem dX9_level_2 : decode cX9_level 2 = .ok (.bipush 9, 2) := by decide +kernel
theorem dX9_level_4 : decode cX9_level 4 = .ok (.invokestatic 40, 3) := by decide +kernel
theorem dX9_level_7 : decode cX9_level 7 = .ok (.aload_n 0, 1) := by decide +kernel
theorem dX9_level_8 : decode cX9_level 8 = .ok (.getfield 29, 3) := by decide +kernel
theorem dX9_level_11 : decode cX9_level 11 = .ok (.aload_n 0, 1) := by decide +kernel
theorem dX9_level_12 : decode cX9_level 12 = .ok (.getfield 19, 3) := by decide +kernel
theorem dX9_level_15 : decode cX9_level 15 = .ok (.invokevirtual 138, 3) := by decide +kernel
theorem dX9_level_18 : decode cX9_level 18 = .ok (.aload_n 0, 1) := by decide +kernel
theorem dX9_level_19 : decode cX9_level 19 = .ok (.getfield 19, 3) := by decide +kernel
theorem dX9_level_22 : decode cX9_level 22 = .ok (.iload_n 1, 1) := by decide +kernel
theorem dX9_level_23 : decode cX9_level 23 = .ok (.invokevirtual 147, 3) := by decide +kernel
theorem dX9_level_26 : decode cX9_level 26 = .ok (.aload_n 0, 1) := by decide +kernel
theorem dX9_level_27 : decode cX9_level 27 = .ok (.getfield 19, 3) := by decide +kernel
theorem dX9_level_30 : decode cX9_level 30 = .ok (.getfield 84, 3) := by decide +kernel
theorem dX9_level_33 : decode cX9_level 33 = .ok (.invokevirtual 150, 3) := by decide +kernel
theorem dX9_level_36 : decode cX9_level 36 = .ok (.ireturn, 1) := by decide +kernel
set_option maxRecDepth 20000 in
theorem ggX9_setTime_X9_needRange : GoodIn wsX9_setTime wsX9_needRange := goodIn_ca (goodIn_r _ [9, 10, 11] (by decide +kernel) (by decide +kernel)) (goodIn_sub (fun _ h => List.mem_cons_of_mem _ (List.mem_append_left _ (List.mem_append_right _ h))) (by decide +kernel))
set_option maxRecDepth 20000 in
theorem gX9_setTime_X9_needRange : GoodIn wsX9_setTime (va_wsS RX9 40 yX9_needRange wsX9_needRange) := goodIn_app (goodIn_of _ (by decide +kernel)) ggX9_setTime_X9_needRange
set_option maxRecDepth 20000 in
theorem ggX9_setTime_X9_needMain : GoodIn wsX9_setTime wsX9_needMain := goodIn_ca (goodIn_r _ [15, 16, 17, 3, 18, 19, 20, 21, 22, 23, 24, 25, 26, 27, 28, 29, 30, 98, 99, 100, 101, 102, 103, 104, 105, 106, 107, 108, 116, 117, 118, 119] (by decide +kernel) (by decide +kernel)) (goodIn_sub (fun _ h => List.mem_cons_of_mem _ (List.mem_append_right _ h)) (by decide +kernel))
set_option maxRecDepth 20000 in
theorem gX9_setTime_X9_needMain : GoodIn wsX9_setTime (wsV RX9 154 RX9 yX9_needMain wsX9_needMain) := goodIn_app (goodIn_of _ (by decide +kernel)) ggX9_setTime_X9_needMain
set_option maxRecDepth 20000 in
theorem ggX9_setTime_X2_remember : GoodIn wsX9_setTime wsX2_remember := goodIn_r _ [35, 36, 37, 38, 39, 40, 34, 41, 42, 43, 44, 21, 45, 46, 47, 23, 48, 49, 50, 51, 52, 53, 54, 55, 56, 57, 58, 59, 60, 61, 62, 63, 64, 65, 66, 67, 68, 69, 27, 70, 71, 72, 29, 30, 73, 74, 75, 76, 77, 78, 79, 80, 81, 82, 83, 84, 85, 86, 87, 88, 89, 90, 91, 92, 93, 120, 121, 103, 104, 105, 106, 107, 108, 109, 110, 111, 112, 113, 114, 115, 116, 117, 118, 119, 122, 123, 124, 125, 126, 127, 128, 129, 130] (by decide +kernel) (by decide +kernel)
set_option maxRecDepth 20000 in
theorem gX9_setTime_X2_remember : GoodIn wsX9_setTime (wsV RX9 138 RX2 yX2_remember wsX2_remember) := goodIn_app (goodIn_of _ (by decide +kernel)) ggX9_setTime_X2_remember
set_option maxRecDepth 20000 in
theorem ggX9_setTime_X1_setTo : GoodIn wsX9_setTime wsX1_setTo := goodIn_r _ [97, 60, 61, 62, 109, 110, 111, 112, 113, 114, 115] (by decide +kernel) (by decide +kernel)
set_option maxRecDepth 20000 in
theorem gX9_setTime_X1_setTo : GoodIn wsX9_setTime (wsV RX9 157 RX1 yX1_setTo wsX1_setTo) := goodIn_app (goodIn_of _ (by decide +kernel)) ggX9_setTime_X1_setTo
theorem dX9_setTime_0 : decode cX9_setTime 0 = .ok (.iload_n 1, 1) := by decide +kernel
theorem dX9_setTime_1 : decode cX9_setTime 1 = .ok (.iconst 0, 1) := by decide +kernel
theorem dX9_setTime_2 : decode cX9_setTime 2 = .ok (.ldc 153, 2) := by decide +kernel
theorem dX9_setTime_4 : decode cX9_setTime 4 = .ok (.invokestatic 40, 3) := by decide +kernel
theorem dX9_setTime_7 : decode cX9_setTime 7 = .ok (.aload_n 0, 1) := by decide +kernel
theorem dX9_setTime_8 : decode cX9_setTime 8 = .ok (.invokevirtual 154, 3) := by decide +kernel
theorem dX9_setTime_11 : decode cX9_setTime 11 = .ok (.aload_n 0, 1) := by decide +kernel
theorem dX9_setTime_12 : decode cX9_setTime 12 = .ok (.getfield 29, 3) := by decide +kernel
theorem dX9_setTime_15 : decode cX9_setTime 15 = .ok (.aload_n 0, 1) := by decide +kernel
theorem dX9_setTime_16 : decode cX9_setTime 16 = .ok (.getfield 19, 3) := by decide +kernel
theorem dX9_setTime_19 : decode cX9_setTime 19 = .ok (.invokevirtual 138, 3) := by decide +kernel
theorem dX9_setTime_22 : decode cX9_setTime 22 = .ok (.aload_n 0, 1) := by decide +kernel
theorem dX9_setTime_23 : decode cX9_setTime 23 = .ok (.getfield 19, 3) := by decide +kernel
theorem dX9_setTime_26 : decode cX9_setTime 26 = .ok (.getfield 94, 3) := by decide +kernel
theorem dX9_setTime_29 : decode cX9_setTime 29 = .ok (.getfield 144, 3) := by decide +kernel
theorem dX9_setTime_32 : decode cX9_setTime 32 = .ok (.istore_n 2, 1) := by decide +kernel
theorem dX9_setTime_33 : decode cX9_setTime 33 = .ok (.aload_n 0, 1) := by decide +kernel
theorem dX9_setTime_34 : decode cX9_setTime 34 = .ok (.getfield 19, 3) := by decide +kernel
theorem dX9_setTime_37 : decode cX9_setTime 37 = .ok (.getfield 94, 3) := by decide +kernel
theorem dX9_setTime_40 : decode cX9_setTime 40 = .ok (.iload_n 1, 1) := by decide +kernel
theorem dX9_setTime_41 : decode cX9_setTime 41 = .ok (.invokevirtual 157, 3) := by decide +kernel
theorem dX9_setTime_44 : decode cX9_setTime 44 = .ok (.iload_n 2, 1) := by decide +kernel
theorem dX9_setTime_45 : decode cX9_setTime 45 = .ok (.ireturn, 1) := by decide +kernel
set_option maxRecDepth 20000 in
theorem ggX9_correct_X9_needRange : GoodIn wsX9_correct wsX9_needRange := goodIn_ca (goodIn_r _ [8, 9, 10] (by decide +kernel) (by decide +kernel)) (goodIn_sub (fun _ h => List.mem_cons_of_mem _ (List.mem_append_left _ (List.mem_append_right _ h))) (by decide +kernel))
set_option maxRecDepth 20000 in
theorem gX9_correct_X9_needRange : GoodIn wsX9_correct (va_wsS RX9 40 yX9_needRange wsX9_needRange) := goodIn_app (goodIn_of _ (by decide +kernel)) ggX9_correct_X9_needRange
set_option maxRecDepth 20000 in
theorem ggX9_correct_X9_needMain : GoodIn wsX9_correct wsX9_needMain := goodIn_ca (goodIn_r _ [14, 15, 16, 2, 17, 18, 19, 20, 21, 22, 23, 24, 25, 26, 27, 28, 29, 93, 94, 95, 96, 97, 98, 99, 100, 101, 102, 103, 111, 112, 113, 114] (by decide +kernel) (by decide +kernel)) (goodIn_sub (fun _ h => List.mem_cons_of_mem _ (List.mem_append_right _ h)) (by decide +kernel))
set_option maxRecDepth 20000 in
theorem gX9_correct_X9_needMain : GoodIn wsX9_correct (wsV RX9 154 RX9 yX9_needMain wsX9_needMain) := goodIn_app (goodIn_of _ (by decide +kernel)) ggX9_correct_X9_needMain
set_option maxRecDepth 20000 in
theorem ggX9_correct_X2_remember : GoodIn wsX9_correct wsX2_remember := goodIn_r _ [34, 35, 36, 37, 38, 39, 33, 40, 41, 42, 43, 20, 44, 45, 46, 22, 47, 48, 49, 50, 51, 52, 53, 54, 55, 56, 57, 58, 59, 60, 61, 62, 63, 64, 65, 66, 67, 68, 26, 69, 70, 71, 28, 29, 72, 73, 74, 75, 76, 77, 78, 79, 80, 81, 82, 83, 84, 85, 86, 87, 88, 89, 90, 91, 92, 115, 116, 98, 99, 100, 101, 102, 103, 104, 105, 106, 107, 108, 109, 110, 111, 112, 113, 114, 117, 118, 119, 120, 121, 122, 123, 124, 125] (by decide +kernel) (by decide +kernel)
set_option maxRecDepth 20000 in
theorem gX9_correct_X2_remember : GoodIn wsX9_correct (wsV RX9 138 RX2 yX2_remember wsX2_remember) := goodIn_app (goodIn_of _ (by decide +kernel)) ggX9_correct_X2_remember
theorem dX9_correct_0 : decode cX9_correct 0 = .ok (.iload_n 1, 1) := by decide +kernel
theorem dX9_correct_1 : decode cX9_correct 1 = .ok (.sipush (-500), 3) := by decide +kernel
theorem dX9_correct_4 : decode cX9_correct 4 = .ok (.sipush 500, 3) := by decide +kernel
theorem dX9_correct_7 : decode cX9_correct 7 = .ok (.invokestatic 40, 3) := by decide +kernel
theorem dX9_correct_10 : decode cX9_correct 10 = .ok (.aload_n 0, 1) := by decide +kernel
theorem dX9_correct_11 : decode cX9_correct 11 = .ok (.invokevirtual 154, 3) := by decide +kernel
theorem dX9_correct_14 : decode cX9_correct 14 = .ok (.aload_n 0, 1) := by decide +kernel
theorem dX9_correct_15 : decode cX9_correct 15 = .ok (.getfield 29, 3) := by decide +kernel
theorem dX9_correct_18 : decode cX9_correct 18 = .ok (.aload_n 0, 1) := by decide +kernel
theorem dX9_correct_19 : decode cX9_correct 19 = .ok (.getfield 19, 3) := by decide +kernel
theorem dX9_correct_22 : decode cX9_correct 22 = .ok (.invokevirtual 138, 3) := by decide +kernel
theorem dX9_correct_25 : decode cX9_correct 25 = .ok (.aload_n 0, 1) := by decide +kernel
theorem dX9_correct_26 : decode cX9_correct 26 = .ok (.getfield 19, 3) := by decide +kernel
theorem dX9_correct_29 : decode cX9_correct 29 = .ok (.getfield 94, 3) := by decide +kernel
theorem dX9_correct_32 : decode cX9_correct 32 = .ok (.getfield 160, 3) := by decide +kernel
theorem dX9_correct_35 : decode cX9_correct 35 = .ok (.istore_n 2, 1) := by decide +kernel
theorem dX9_correct_36 : decode cX9_correct 36 = .ok (.aload_n 0, 1) := by decide +kernel
theorem dX9_correct_37 : decode cX9_correct 37 = .ok (.getfield 19, 3) := by decide +kernel
theorem dX9_correct_40 : decode cX9_correct 40 = .ok (.getfield 94, 3) := by decide +kernel
theorem dX9_correct_43 : decode cX9_correct 43 = .ok (.iload_n 1, 1) := by decide +kernel
theorem dX9_correct_44 : decode cX9_correct 44 = .ok (.putfield 160, 3) := by decide +kernel
theorem dX9_correct_47 : decode cX9_correct 47 = .ok (.iload_n 2, 1) := by decide +kernel
theorem dX9_correct_48 : decode cX9_correct 48 = .ok (.ireturn, 1) := by decide +kernel
set_option maxRecDepth 20000 in
theorem ggX9_age_X9_needRange : GoodIn wsX9_age wsX9_needRange := goodIn_ca (goodIn_r _ [8, 9, 10] (by decide +kernel) (by decide +kernel)) (goodIn_sub (fun _ h => List.mem_cons_of_mem _ (List.mem_append_right _ h)) (by decide +kernel))
set_option maxRecDepth 20000 in
theorem gX9_age_X9_needRange : GoodIn wsX9_age (va_wsS RX9 40 yX9_needRange wsX9_needRange) := goodIn_app (goodIn_of _ (by decide +kernel)) ggX9_age_X9_needRange
set_option maxRecDepth 20000 in
theorem ggX9_age_X2_remember : GoodIn wsX9_age wsX2_remember := goodIn_r _ [15, 16, 17, 18, 19, 20, 14, 21, 22, 23, 24, 25, 26, 27, 28, 29, 30, 31, 32, 33, 34, 35, 36, 37, 38, 39, 40, 41, 42, 43, 44, 45, 46, 47, 48, 49, 50, 51, 52, 53, 54, 55, 56, 57, 58, 59, 60, 61, 62, 63, 64, 65, 66, 67, 68, 69, 70, 71, 72, 73, 74, 75, 76, 77, 78, 97, 98, 84, 85, 86, 87, 88, 89, 90, 91, 92, 93, 94, 95, 96, 99, 100, 101, 102, 103, 104, 105, 106, 107, 108, 109, 110, 111] (by decide +kernel) (by decide +kernel)
set_option maxRecDepth 20000 in
theorem gX9_age_X2_remember : GoodIn wsX9_age (wsV RX9 138 RX2 yX2_remember wsX2_remember) := goodIn_app (goodIn_of _ (by decide +kernel)) ggX9_age_X2_remember
theorem dX9_age_0 : decode cX9_age 0 = .ok (.iload_n 1, 1) := by decide +kernel
theorem dX9_age_1 : decode cX9_age 1 = .ok (.sipush (-500), 3) := by decide +kernel
theorem dX9_age_4 : decode cX9_age 4 = .ok (.sipush 500, 3) := by decide +kernel
theorem dX9_age_7 : decode cX9_age 7 = .ok (.invokestatic 40, 3) := by decide +kernel
theorem dX9_age_10 : decode cX9_age 10 = .ok (.aload_n 0, 1) := by decide +kernel
theorem dX9_age_11 : decode cX9_age 11 = .ok (.getfield 29, 3) := by decide +kernel
theorem dX9_age_14 : decode cX9_age 14 = .ok (.aload_n 0, 1) := by decide +kernel
theorem dX9_age_15 : decode cX9_age 15 = .ok (.getfield 19, 3) := by decide +kernel
theorem dX9_age_18 : decode cX9_age 18 = .ok (.invokevirtual 138, 3) := by decide +kernel
theorem dX9_age_21 : decode cX9_age 21 = .ok (.aload_n 0, 1) := by decide +kernel
theorem dX9_age_22 : decode cX9_age 22 = .ok (.getfield 19, 3) := by decide +kernel
theorem dX9_age_25 : decode cX9_age 25 = .ok (.getfield 94, 3) := by decide +kernel
theorem dX9_age_28 : decode cX9_age 28 = .ok (.getfield 163, 3) := by decide +kernel
theorem dX9_age_31 : decode cX9_age 31 = .ok (.istore_n 2, 1) := by decide +kernel
theorem dX9_age_32 : decode cX9_age 32 = .ok (.aload_n 0, 1) := by decide +kernel
theorem dX9_age_33 : decode cX9_age 33 = .ok (.getfield 19, 3) := by decide +kernel
theorem dX9_age_36 : decode cX9_age 36 = .ok (.getfield 94, 3) := by decide +kernel
theorem dX9_age_39 : decode cX9_age 39 = .ok (.iload_n 1, 1) := by decide +kernel
theorem dX9_age_40 : decode cX9_age 40 = .ok (.putfield 163, 3) := by decide +kernel
theorem dX9_age_43 : decode cX9_age 43 = .ok (.iload_n 2, 1) := by decide +kernel
theorem dX9_age_44 : decode cX9_age 44 = .ok (.ireturn, 1) := by decide +kernel
set_option maxRecDepth 20000 in
theorem ggX9_write_X9_needIndex : GoodIn wsX9_write wsX9_needIndex := goodIn_ca (goodIn_r _ [7, 8, 9] (by decide +kernel) (by decide +kernel)) (goodIn_sub (fun _ h => List.mem_cons_of_mem _ (List.mem_append_left _ (List.mem_append_left _ (List.mem_append_right _ h)))) (by decide +kernel))
set_option maxRecDepth 20000 in
theorem gX9_write_X9_needIndex : GoodIn wsX9_write (va_wsS RX9 107 yX9_needIndex wsX9_needIndex) := goodIn_app (goodIn_of _ (by decide +kernel)) ggX9_write_X9_needIndex
set_option maxRecDepth 20000 in
theorem ggX9_write_X9_needRange : GoodIn wsX9_write wsX9_needRange := goodIn_ca (goodIn_r _ [12, 13, 14] (by decide +kernel) (by decide +kernel)) (goodIn_sub (fun _ h => List.mem_cons_of_mem _ (List.mem_append_left _ (List.mem_append_right _ h))) (by decide +kernel))
set_option maxRecDepth 20000 in
theorem gX9_write_X9_needRange : GoodIn wsX9_write (va_wsS RX9 40 yX9_needRange wsX9_needRange) := goodIn_app (goodIn_of _ (by decide +kernel)) ggX9_write_X9_needRange
set_option maxRecDepth 20000 in
theorem ggX9_write_X9_needMain : GoodIn wsX9_write wsX9_needMain := goodIn_ca (goodIn_r _ [18, 19, 20, 2, 21, 22, 23, 24, 25, 26, 27, 28, 29, 30, 31, 32, 33, 97, 98, 99, 100, 101, 102, 103, 104, 105, 106, 107, 108, 109, 110, 111] (by decide +kernel) (by decide +kernel)) (goodIn_sub (fun _ h => List.mem_cons_of_mem _ (List.mem_append_right _ h)) (by decide +kernel))
set_option maxRecDepth 20000 in
theorem gX9_write_X9_needMain : GoodIn wsX9_write (wsV RX9 154 RX9 yX9_needMain wsX9_needMain) := goodIn_app (goodIn_of _ (by decide +kernel)) ggX9_write_X9_needMain
set_option maxRecDepth 20000 in
theorem ggX9_write_X2_remember : GoodIn wsX9_write wsX2_remember := goodIn_r _ [38, 39, 40, 41, 42, 43, 37, 44, 45, 46, 47, 24, 48, 49, 50, 26, 51, 52, 53, 54, 55, 56, 57, 58, 59, 60, 61, 62, 63, 64, 65, 66, 67, 68, 69, 70, 71, 72, 30, 73, 74, 75, 32, 33, 76, 77, 78, 79, 80, 81, 82, 83, 84, 85, 86, 87, 88, 89, 90, 91, 92, 93, 94, 95, 96, 112, 113, 102, 103, 104, 105, 106, 107, 114, 115, 116, 117, 118, 119, 120, 108, 109, 110, 111, 121, 122, 123, 124, 125, 126, 127, 128, 129] (by decide +kernel) (by decide +kernel)
set_option maxRecDepth 20000 in
theorem gX9_write_X2_remember : GoodIn wsX9_write (wsV RX9 138 RX2 yX2_remember wsX2_remember) := goodIn_app (goodIn_of _ (by decide +kernel)) ggX9_write_X2_remember
theorem dX9_write_0 : decode cX9_write 0 = .ok (.iload_n 1, 1) := by decide +kernel
theorem dX9_write_1 : decode cX9_write 1 = .ok (.bipush 8, 2) := by decide +kernel
theorem dX9_write_3 : decode cX9_write 3 = .ok (.invokestatic 107, 3) := by decide +kernel
theorem dX9_write_6 : decode cX9_write 6 = .ok (.iload_n 2, 1) := by decide +kernel
theorem dX9_write_7 : decode cX9_write 7 = .ok (.iconst 0, 1) := by decide +kernel
theorem dX9_write_8 : decode cX9_write 8 = .ok (.sipush 255, 3) := by decide +kernel
theorem dX9_write_11 : decode cX9_write 11 = .ok (.invokestatic 40, 3) := by decide +kernel
theorem dX9_write_14 : decode cX9_write 14 = .ok (.aload_n 0, 1) := by decide +kernel
theorem dX9_write_15 : decode cX9_write 15 = .ok (.invokevirtual 154, 3) := by decide +kernel
theorem dX9_write_18 : decode cX9_write 18 = .ok (.aload_n 0, 1) := by decide +kernel
theorem dX9_write_19 : decode cX9_write 19 = .ok (.getfield 29, 3) := by decide +kernel
theorem dX9_write_22 : decode cX9_write 22 = .ok (.aload_n 0, 1) := by decide +kernel
theorem dX9_write_23 : decode cX9_write 23 = .ok (.getfield 19, 3) := by decide +kernel
theorem dX9_write_26 : decode cX9_write 26 = .ok (.invokevirtual 138, 3) := by decide +kernel
theorem dX9_write_29 : decode cX9_write 29 = .ok (.aload_n 0, 1) := by decide +kernel
theorem dX9_write_30 : decode cX9_write 30 = .ok (.getfield 19, 3) := by decide +kernel
theorem dX9_write_33 : decode cX9_write 33 = .ok (.getfield 111, 3) := by decide +kernel
theorem dX9_write_36 : decode cX9_write 36 = .ok (.iload_n 1, 1) := by decide +kernel
theorem dX9_write_37 : decode cX9_write 37 = .ok (.iaload, 1) := by decide +kernel
theorem dX9_write_38 : decode cX9_write 38 = .ok (.istore_n 3, 1) := by decide +kernel
theorem dX9_write_39 : decode cX9_write 39 = .ok (.aload_n 0, 1) := by decide +kernel
theorem dX9_write_40 : decode cX9_write 40 = .ok (.getfield 19, 3) := by decide +kernel
theorem dX9_write_43 : decode cX9_write 43 = .ok (.getfield 111, 3) := by decide +kernel
theorem dX9_write_46 : decode cX9_write 46 = .ok (.iload_n 1, 1) := by decide +kernel
theorem dX9_write_47 : decode cX9_write 47 = .ok (.iload_n 2, 1) := by decide +kernel
theorem dX9_write_48 : decode cX9_write 48 = .ok (.iastore, 1) := by decide +kernel
theorem dX9_write_49 : decode cX9_write 49 = .ok (.iload_n 3, 1) := by decide +kernel
theorem dX9_write_50 : decode cX9_write 50 = .ok (.ireturn, 1) := by decide +kernel
set_option maxRecDepth 20000 in
theorem ggX9_guard_X9_needIndex : GoodIn wsX9_guard wsX9_needIndex := goodIn_ca (goodIn_r _ [8, 9, 10] (by decide +kernel) (by decide +kernel)) (goodIn_sub (fun _ h => List.mem_cons_of_mem _ (List.mem_append_left _ (List.mem_append_right _ h))) (by decide +kernel))
set_option maxRecDepth 20000 in
theorem gX9_guard_X9_needIndex : GoodIn wsX9_guard (va_wsS RX9 107 yX9_needIndex wsX9_needIndex) := goodIn_app (goodIn_of _ (by decide +kernel)) ggX9_guard_X9_needIndex
set_option maxRecDepth 20000 in
theorem ggX9_guard_X9_needMain : GoodIn wsX9_guard wsX9_needMain := goodIn_ca (goodIn_r _ [14, 15, 16, 2, 17, 18, 19, 20, 21, 22, 23, 24, 25, 26, 27, 28, 29, 97, 98, 99, 100, 101, 102, 103, 104, 105, 106, 107, 114, 115, 116, 117] (by decide +kernel) (by decide +kernel)) (goodIn_sub (fun _ h => List.mem_cons_of_mem _ (List.mem_append_right _ h)) (by decide +kernel))
set_option maxRecDepth 20000 in
theorem gX9_guard_X9_needMain : GoodIn wsX9_guard (wsV RX9 154 RX9 yX9_needMain wsX9_needMain) := goodIn_app (goodIn_of _ (by decide +kernel)) ggX9_guard_X9_needMain
set_option maxRecDepth 20000 in
theorem ggX9_guard_X2_remember : GoodIn wsX9_guard wsX2_remember := goodIn_r _ [34, 35, 36, 37, 38, 39, 33, 40, 41, 42, 43, 20, 44, 45, 46, 22, 47, 48, 49, 50, 51, 52, 53, 54, 55, 56, 57, 58, 59, 60, 61, 62, 63, 64, 65, 66, 67, 68, 26, 69, 70, 71, 28, 29, 72, 73, 74, 75, 76, 77, 78, 79, 80, 81, 82, 83, 84, 85, 86, 87, 88, 89, 90, 91, 92, 118, 119, 102, 103, 104, 105, 106, 107, 120, 121, 122, 123, 124, 125, 126, 114, 115, 116, 117, 108, 109, 110, 111, 112, 113, 127, 128, 129] (by decide +kernel) (by decide +kernel)
set_option maxRecDepth 20000 in
theorem gX9_guard_X2_remember : GoodIn wsX9_guard (wsV RX9 138 RX2 yX2_remember wsX2_remember) := goodIn_app (goodIn_of _ (by decide +kernel)) ggX9_guard_X2_remember
set_option maxRecDepth 20000 in
theorem ggX9_guard_X7_guardedPins : GoodIn wsX9_guard wsX7_guardedPins := goodIn_r _ [96, 78, 108, 109, 110, 111, 112, 113] (by decide +kernel) (by decide +kernel)
set_option maxRecDepth 20000 in
theorem gX9_guard_X7_guardedPins : GoodIn wsX9_guard (wsV RX9 166 RX7 yX7_guardedPins wsX7_guardedPins) := goodIn_app (goodIn_of _ (by decide +kernel)) ggX9_guard_X7_guardedPins
theorem dX9_guard_0 : decode cX9_guard 0 = .ok (.iload_n 1, 1) := by decide +kernel
theorem dX9_guard_1 : decode cX9_guard 1 = .ok (.iconst 3, 1) := by decide +kernel
theorem dX9_guard_2 : decode cX9_guard 2 = .ok (.invokestatic 107, 3) := by decide +kernel
theorem dX9_guard_5 : decode cX9_guard 5 = .ok (.aload_n 0, 1) := by decide +kernel
theorem dX9_guard_6 : decode cX9_guard 6 = .ok (.invokevirtual 154, 3) := by decide +kernel
theorem dX9_guard_9 : decode cX9_guard 9 = .ok (.aload_n 0, 1) := by decide +kernel
theorem dX9_guard_10 : decode cX9_guard 10 = .ok (.getfield 29, 3) := by decide +kernel
theorem dX9_guard_13 : decode cX9_guard 13 = .ok (.aload_n 0, 1) := by decide +kernel
theorem dX9_guard_14 : decode cX9_guard 14 = .ok (.getfield 19, 3) := by decide +kernel
theorem dX9_guard_17 : decode cX9_guard 17 = .ok (.invokevirtual 138, 3) := by decide +kernel
theorem dX9_guard_20 : decode cX9_guard 20 = .ok (.aload_n 0, 1) := by decide +kernel
theorem dX9_guard_21 : decode cX9_guard 21 = .ok (.getfield 19, 3) := by decide +kernel
theorem dX9_guard_24 : decode cX9_guard 24 = .ok (.getfield 114, 3) := by decide +kernel
theorem dX9_guard_27 : decode cX9_guard 27 = .ok (.getfield 118, 3) := by decide +kernel
theorem dX9_guard_30 : decode cX9_guard 30 = .ok (.iload_n 1, 1) := by decide +kernel
theorem dX9_guard_31 : decode cX9_guard 31 = .ok (.iload_n 2, 1) := by decide +kernel
theorem dX9_guard_32 : decode cX9_guard 32 = .ok (.bastore, 1) := by decide +kernel
theorem dX9_guard_33 : decode cX9_guard 33 = .ok (.aload_n 0, 1) := by decide +kernel
theorem dX9_guard_34 : decode cX9_guard 34 = .ok (.getfield 19, 3) := by decide +kernel
theorem dX9_guard_37 : decode cX9_guard 37 = .ok (.getfield 114, 3) := by decide +kernel
theorem dX9_guard_40 : decode cX9_guard 40 = .ok (.invokevirtual 166, 3) := by decide +kernel
theorem dX9_guard_43 : decode cX9_guard 43 = .ok (.ireturn, 1) := by decide +kernel
set_option maxRecDepth 20000 in
theorem ggX9_tamper_X9_needIndex : GoodIn wsX9_tamper wsX9_needIndex := goodIn_ca (goodIn_r _ [8, 9, 10] (by decide +kernel) (by decide +kernel)) (goodIn_sub (fun _ h => List.mem_cons_of_mem _ (List.mem_append_right _ h)) (by decide +kernel))
set_option maxRecDepth 20000 in
theorem gX9_tamper_X9_needIndex : GoodIn wsX9_tamper (va_wsS RX9 107 yX9_needIndex wsX9_needIndex) := goodIn_app (goodIn_of _ (by decide +kernel)) ggX9_tamper_X9_needIndex
set_option maxRecDepth 20000 in
theorem ggX9_tamper_X2_remember : GoodIn wsX9_tamper wsX2_remember := goodIn_r _ [15, 16, 17, 18, 19, 20, 14, 21, 22, 23, 24, 25, 26, 27, 28, 29, 30, 31, 32, 33, 34, 35, 36, 37, 38, 39, 40, 41, 42, 43, 44, 45, 46, 47, 48, 49, 50, 51, 52, 53, 54, 55, 56, 57, 58, 59, 60, 61, 62, 63, 64, 65, 66, 67, 68, 69, 70, 71, 72, 73, 74, 75, 76, 77, 78, 114, 115, 102, 103, 104, 105, 106, 107, 116, 117, 118, 119, 120, 121, 122, 123, 124, 125, 126, 108, 109, 110, 111, 112, 113, 127, 128, 129] (by decide +kernel) (by decide +kernel)
set_option maxRecDepth 20000 in
theorem gX9_tamper_X2_remember : GoodIn wsX9_tamper (wsV RX9 138 RX2 yX2_remember wsX2_remember) := goodIn_app (goodIn_of _ (by decide +kernel)) ggX9_tamper_X2_remember
set_option maxRecDepth 20000 in
theorem ggX9_tamper_X5_tamperAt : GoodIn wsX9_tamper wsX5_tamperAt := goodIn_r _ [82, 30, 83, 29, 28, 84, 85, 86, 87, 52, 88, 56, 57, 89, 90, 91, 25, 92, 31, 93, 94, 95, 62, 96, 70, 69, 66, 67, 68, 102, 103, 104, 105, 106, 107, 108, 109, 110, 111, 112, 113, 116, 117, 118, 119, 120, 121, 122, 123, 124, 125, 126] (by decide +kernel) (by decide +kernel)
set_option maxRecDepth 20000 in
theorem gX9_tamper_X5_tamperAt : GoodIn wsX9_tamper (wsV RX9 169 RX5 yX5_tamperAt wsX5_tamperAt) := goodIn_app (goodIn_of _ (by decide +kernel)) ggX9_tamper_X5_tamperAt
theorem dX9_tamper_0 : decode cX9_tamper 0 = .ok (.iload_n 1, 1) := by decide +kernel
theorem dX9_tamper_1 : decode cX9_tamper 1 = .ok (.iconst 3, 1) := by decide +kernel
theorem dX9_tamper_2 : decode cX9_tamper 2 = .ok (.invokestatic 107, 3) := by decide +kernel
theorem dX9_tamper_5 : decode cX9_tamper 5 = .ok (.aload_n 0, 1) := by decide +kernel
theorem dX9_tamper_6 : decode cX9_tamper 6 = .ok (.getfield 29, 3) := by decide +kernel
theorem dX9_tamper_9 : decode cX9_tamper 9 = .ok (.aload_n 0, 1) := by decide +kernel
theorem dX9_tamper_10 : decode cX9_tamper 10 = .ok (.getfield 19, 3) := by decide +kernel
theorem dX9_tamper_13 : decode cX9_tamper 13 = .ok (.invokevirtual 138, 3) := by decide +kernel
theorem dX9_tamper_16 : decode cX9_tamper 16 = .ok (.aload_n 0, 1) := by decide +kernel
theorem dX9_tamper_17 : decode cX9_tamper 17 = .ok (.getfield 19, 3) := by decide +kernel
theorem dX9_tamper_20 : decode cX9_tamper 20 = .ok (.iload_n 1, 1) := by decide +kernel
theorem dX9_tamper_21 : decode cX9_tamper 21 = .ok (.invokevirtual 169, 3) := by decide +kernel
theorem dX9_tamper_24 : decode cX9_tamper 24 = .ok (.aload_n 0, 1) := by decide +kernel
theorem dX9_tamper_25 : decode cX9_tamper 25 = .ok (.getfield 19, 3) := by decide +kernel
theorem dX9_tamper_28 : decode cX9_tamper 28 = .ok (.getfield 114, 3) := by decide +kernel
theorem dX9_tamper_31 : decode cX9_tamper 31 = .ok (.getfield 124, 3) := by decide +kernel
theorem dX9_tamper_34 : decode cX9_tamper 34 = .ok (.ireturn, 1) := by decide +kernel
set_option maxRecDepth 20000 in
theorem ggX9_clearRows_X9_needMain : GoodIn wsX9_clearRows wsX9_needMain := goodIn_ca (goodIn_r _ [9, 10, 11, 2, 12, 13, 14, 15, 16, 17, 18, 19, 20, 21, 22, 23, 24, 88, 89, 90, 91, 92, 93, 94, 95, 96, 97, 98, 105, 106, 107, 108] (by decide +kernel) (by decide +kernel)) (goodIn_sub (fun _ h => List.mem_cons_of_mem _ (List.mem_append_right _ h)) (by decide +kernel))
set_option maxRecDepth 20000 in
theorem gX9_clearRows_X9_needMain : GoodIn wsX9_clearRows (wsV RX9 154 RX9 yX9_needMain wsX9_needMain) := goodIn_app (goodIn_of _ (by decide +kernel)) ggX9_clearRows_X9_needMain
set_option maxRecDepth 20000 in
theorem ggX9_clearRows_X2_remember : GoodIn wsX9_clearRows wsX2_remember := goodIn_r _ [29, 30, 31, 32, 33, 34, 28, 35, 36, 37, 38, 15, 39, 40, 41, 17, 42, 43, 44, 45, 46, 47, 48, 49, 50, 51, 52, 53, 54, 55, 56, 57, 58, 59, 60, 61, 62, 63, 21, 64, 65, 66, 23, 24, 67, 68, 69, 70, 71, 72, 73, 74, 75, 76, 77, 78, 79, 80, 81, 82, 83, 84, 85, 86, 87, 109, 110, 93, 94, 95, 96, 97, 98, 111, 112, 113, 114, 115, 116, 117, 105, 106, 107, 108, 99, 100, 101, 102, 103, 104, 118, 119, 120] (by decide +kernel) (by decide +kernel)
set_option maxRecDepth 20000 in
theorem gX9_clearRows_X2_remember : GoodIn wsX9_clearRows (wsV RX9 138 RX2 yX2_remember wsX2_remember) := goodIn_app (goodIn_of _ (by decide +kernel)) ggX9_clearRows_X2_remember
theorem dX9_clearRows_0 : decode cX9_clearRows 0 = .ok (.aload_n 0, 1) := by decide +kernel
theorem dX9_clearRows_1 : decode cX9_clearRows 1 = .ok (.invokevirtual 154, 3) := by decide +kernel
theorem dX9_clearRows_4 : decode cX9_clearRows 4 = .ok (.aload_n 0, 1) := by decide +kernel
theorem dX9_clearRows_5 : decode cX9_clearRows 5 = .ok (.getfield 29, 3) := by decide +kernel
theorem dX9_clearRows_8 : decode cX9_clearRows 8 = .ok (.aload_n 0, 1) := by decide +kernel
theorem dX9_clearRows_9 : decode cX9_clearRows 9 = .ok (.getfield 19, 3) := by decide +kernel
theorem dX9_clearRows_12 : decode cX9_clearRows 12 = .ok (.invokevirtual 138, 3) := by decide +kernel
theorem dX9_clearRows_15 : decode cX9_clearRows 15 = .ok (.aload_n 0, 1) := by decide +kernel
theorem dX9_clearRows_16 : decode cX9_clearRows 16 = .ok (.getfield 19, 3) := by decide +kernel
theorem dX9_clearRows_19 : decode cX9_clearRows 19 = .ok (.getfield 114, 3) := by decide +kernel
theorem dX9_clearRows_22 : decode cX9_clearRows 22 = .ok (.getfield 124, 3) := by decide +kernel
theorem dX9_clearRows_25 : decode cX9_clearRows 25 = .ok (.istore_n 1, 1) := by decide +kernel
theorem dX9_clearRows_26 : decode cX9_clearRows 26 = .ok (.aload_n 0, 1) := by decide +kernel
theorem dX9_clearRows_27 : decode cX9_clearRows 27 = .ok (.getfield 19, 3) := by decide +kernel
theorem dX9_clearRows_30 : decode cX9_clearRows 30 = .ok (.getfield 114, 3) := by decide +kernel
theorem dX9_clearRows_33 : decode cX9_clearRows 33 = .ok (.iconst 0, 1) := by decide +kernel
theorem dX9_clearRows_34 : decode cX9_clearRows 34 = .ok (.putfield 124, 3) := by decide +kernel
theorem dX9_clearRows_37 : decode cX9_clearRows 37 = .ok (.iload_n 1, 1) := by decide +kernel
theorem dX9_clearRows_38 : decode cX9_clearRows 38 = .ok (.ireturn, 1) := by decide +kernel
set_option maxRecDepth 20000 in
theorem ggX9_setAlarm_X9_needIndex : GoodIn wsX9_setAlarm wsX9_needIndex := goodIn_ca (goodIn_r _ [9, 10, 11] (by decide +kernel) (by decide +kernel)) (goodIn_sub (fun _ h => List.mem_cons_of_mem _ (List.mem_append_left _ (List.mem_append_right _ h))) (by decide +kernel))
set_option maxRecDepth 20000 in
theorem gX9_setAlarm_X9_needIndex : GoodIn wsX9_setAlarm (va_wsS RX9 107 yX9_needIndex wsX9_needIndex) := goodIn_app (goodIn_of _ (by decide +kernel)) ggX9_setAlarm_X9_needIndex
set_option maxRecDepth 20000 in
theorem ggX9_setAlarm_X9_needRange : GoodIn wsX9_setAlarm wsX9_needRange := goodIn_ca (goodIn_r _ [14, 15, 16] (by decide +kernel) (by decide +kernel)) (goodIn_sub (fun _ h => List.mem_cons_of_mem _ (List.mem_append_right _ h)) (by decide +kernel))
set_option maxRecDepth 20000 in
theorem gX9_setAlarm_X9_needRange : GoodIn wsX9_setAlarm (va_wsS RX9 40 yX9_needRange wsX9_needRange) := goodIn_app (goodIn_of _ (by decide +kernel)) ggX9_setAlarm_X9_needRange
set_option maxRecDepth 20000 in
theorem ggX9_setAlarm_X2_remember : GoodIn wsX9_setAlarm wsX2_remember := goodIn_r _ [21, 22, 23, 24, 25, 26, 20, 27, 28, 29, 30, 31, 32, 33, 34, 35, 36, 37, 38, 39, 40, 41, 42, 43, 44, 45, 46, 47, 48, 49, 50, 51, 52, 53, 54, 55, 56, 57, 58, 59, 60, 61, 62, 63, 64, 65, 66, 67, 68, 69, 70, 71, 72, 73, 74, 75, 76, 77, 78, 79, 80, 81, 82, 83, 84, 103, 104, 94, 95, 96, 97, 98, 99, 105, 106, 107, 108, 109, 110, 111, 112, 113, 114, 115, 116, 117, 118, 119, 120, 121, 100, 101, 102] (by decide +kernel) (by decide +kernel)
set_option maxRecDepth 20000 in
theorem gX9_setAlarm_X2_remember : GoodIn wsX9_setAlarm (wsV RX9 138 RX2 yX2_remember wsX2_remember) := goodIn_app (goodIn_of _ (by decide +kernel)) ggX9_setAlarm_X2_remember
set_option maxRecDepth 20000 in
theorem ggX9_setAlarm_X0_setTo : GoodIn wsX9_setAlarm wsX0_setTo := goodIn_r _ [88, 82, 83, 100, 101, 102] (by decide +kernel) (by decide +kernel)
set_option maxRecDepth 20000 in
theorem gX9_setAlarm_X0_setTo : GoodIn wsX9_setAlarm (wsV RX9 175 RX0 yX0_setTo wsX0_setTo) := goodIn_app (goodIn_of _ (by decide +kernel)) ggX9_setAlarm_X0_setTo
theorem dX9_setAlarm_0 : decode cX9_setAlarm 0 = .ok (.iload_n 1, 1) := by decide +kernel
theorem dX9_setAlarm_1 : decode cX9_setAlarm 1 = .ok (.iconst 4, 1) := by decide +kernel
theorem dX9_setAlarm_2 : decode cX9_setAlarm 2 = .ok (.invokestatic 107, 3) := by decide +kernel
theorem dX9_setAlarm_5 : decode cX9_setAlarm 5 = .ok (.iload_n 2, 1) := by decide +kernel
theorem dX9_setAlarm_6 : decode cX9_setAlarm 6 = .ok (.iconst 0, 1) := by decide +kernel
theorem dX9_setAlarm_7 : decode cX9_setAlarm 7 = .ok (.sipush 1440, 3) := by decide +kernel
theorem dX9_setAlarm_10 : decode cX9_setAlarm 10 = .ok (.invokestatic 40, 3) := by decide +kernel
theorem dX9_setAlarm_13 : decode cX9_setAlarm 13 = .ok (.aload_n 0, 1) := by decide +kernel
theorem dX9_setAlarm_14 : decode cX9_setAlarm 14 = .ok (.getfield 29, 3) := by decide +kernel
theorem dX9_setAlarm_17 : decode cX9_setAlarm 17 = .ok (.aload_n 0, 1) := by decide +kernel
theorem dX9_setAlarm_18 : decode cX9_setAlarm 18 = .ok (.getfield 19, 3) := by decide +kernel
theorem dX9_setAlarm_21 : decode cX9_setAlarm 21 = .ok (.invokevirtual 138, 3) := by decide +kernel
theorem dX9_setAlarm_24 : decode cX9_setAlarm 24 = .ok (.aload_n 0, 1) := by decide +kernel
theorem dX9_setAlarm_25 : decode cX9_setAlarm 25 = .ok (.getfield 19, 3) := by decide +kernel
theorem dX9_setAlarm_28 : decode cX9_setAlarm 28 = .ok (.getfield 131, 3) := by decide +kernel
theorem dX9_setAlarm_31 : decode cX9_setAlarm 31 = .ok (.iload_n 1, 1) := by decide +kernel
theorem dX9_setAlarm_32 : decode cX9_setAlarm 32 = .ok (.aaload, 1) := by decide +kernel
theorem dX9_setAlarm_33 : decode cX9_setAlarm 33 = .ok (.getfield 172, 3) := by decide +kernel
theorem dX9_setAlarm_36 : decode cX9_setAlarm 36 = .ok (.istore_n 3, 1) := by decide +kernel
theorem dX9_setAlarm_37 : decode cX9_setAlarm 37 = .ok (.aload_n 0, 1) := by decide +kernel
theorem dX9_setAlarm_38 : decode cX9_setAlarm 38 = .ok (.getfield 19, 3) := by decide +kernel
theorem dX9_setAlarm_41 : decode cX9_setAlarm 41 = .ok (.getfield 131, 3) := by decide +kernel
theorem dX9_setAlarm_44 : decode cX9_setAlarm 44 = .ok (.iload_n 1, 1) := by decide +kernel
theorem dX9_setAlarm_45 : decode cX9_setAlarm 45 = .ok (.aaload, 1) := by decide +kernel
theorem dX9_setAlarm_46 : decode cX9_setAlarm 46 = .ok (.iload_n 2, 1) := by decide +kernel
theorem dX9_setAlarm_47 : decode cX9_setAlarm 47 = .ok (.sipush 1440, 3) := by decide +kernel
theorem dX9_setAlarm_50 : decode cX9_setAlarm 50 = .ok (.if_icmp .ne 8, 3) := by decide +kernel
theorem dX9_setAlarm_53 : decode cX9_setAlarm 53 = .ok (.ldc 63, 2) := by decide +kernel
theorem dX9_setAlarm_55 : decode cX9_setAlarm 55 = .ok (.goto 4, 3) := by decide +kernel
theorem dX9_setAlarm_58 : decode cX9_setAlarm 58 = .ok (.iload_n 2, 1) := by decide +kernel
theorem dX9_setAlarm_59 : decode cX9_setAlarm 59 = .ok (.invokevirtual 175, 3) := by decide +kernel
theorem dX9_setAlarm_62 : decode cX9_setAlarm 62 = .ok (.iload_n 3, 1) := by decide +kernel
theorem dX9_setAlarm_63 : decode cX9_setAlarm 63 = .ok (.ireturn, 1) := by decide +kernel
set_option maxRecDepth 20000 in
theorem ggX9_battery_X9_needRange : GoodIn wsX9_battery wsX9_needRange := goodIn_ca (goodIn_r _ [7, 8, 9] (by decide +kernel) (by decide +kernel)) (goodIn_sub (fun _ h => List.mem_cons_of_mem _ (List.mem_append_right _ h)) (by decide +kernel))
set_option maxRecDepth 20000 in
theorem gX9_battery_X9_needRange : GoodIn wsX9_battery (va_wsS RX9 40 yX9_needRange wsX9_needRange) := goodIn_app (goodIn_of _ (by decide +kernel)) ggX9_battery_X9_needRange
set_option maxRecDepth 20000 in
theorem ggX9_battery_X2_remember : GoodIn wsX9_battery wsX2_remember := goodIn_r _ [14, 15, 16, 17, 18, 19, 13, 20, 21, 22, 23, 24, 25, 26, 27, 28, 29, 30, 31, 32, 33, 34, 35, 36, 37, 38, 39, 40, 41, 42, 43, 44, 45, 46, 47, 48, 49, 50, 51, 52, 53, 54, 55, 56, 57, 58, 59, 60, 61, 62, 63, 64, 65, 66, 67, 68, 69, 70, 71, 72, 73, 74, 75, 76, 77, 126, 127, 120, 121, 122, 123, 124, 125, 128, 129, 130, 131, 132, 133, 134, 135, 136, 137, 138, 139, 140, 141, 142, 143, 144, 145, 146, 147] (by decide +kernel) (by decide +kernel)
set_option maxRecDepth 20000 in
theorem gX9_battery_X2_remember : GoodIn wsX9_battery (wsV RX9 138 RX2 yX2_remember wsX2_remember) := goodIn_app (goodIn_of _ (by decide +kernel)) ggX9_battery_X2_remember
set_option maxRecDepth 20000 in
theorem ggX9_battery_X5_changeBattery : GoodIn wsX9_battery wsX5_changeBattery := goodIn_r _ [81, 28, 82, 83, 84, 85, 51, 86, 55, 56, 87, 88, 89, 24, 90, 91, 92, 93, 94, 95, 27, 29, 96, 35, 97, 98, 99, 100, 39, 101, 41, 42, 43, 102, 103, 104, 105, 30, 106, 107, 108, 109, 110, 111, 112, 73, 113, 76, 77, 120, 121, 122, 123, 124, 125, 135, 136, 137, 138, 139, 140, 141, 142, 143, 144, 145, 146, 147, 128, 129, 130, 131, 132, 133, 134] (by decide +kernel) (by decide +kernel)
set_option maxRecDepth 20000 in
theorem gX9_battery_X5_changeBattery : GoodIn wsX9_battery (wsV RX9 176 RX5 yX5_changeBattery wsX5_changeBattery) := goodIn_app (goodIn_of _ (by decide +kernel)) ggX9_battery_X5_changeBattery
set_option maxRecDepth 20000 in
theorem ggX9_battery_X6_domain : GoodIn wsX9_battery wsX6_domain := goodIn_r _ [86, 55, 56, 135, 136, 137, 138] (by decide +kernel) (by decide +kernel)
set_option maxRecDepth 20000 in
theorem gX9_battery_X6_domain : GoodIn wsX9_battery (wsV RX9 150 RX6 yX6_domain wsX6_domain) := goodIn_app (goodIn_of _ (by decide +kernel)) ggX9_battery_X6_domain
theorem dX9_battery_0 : decode cX9_battery 0 = .ok (.iload_n 1, 1) := by decide +kernel
theorem dX9_battery_1 : decode cX9_battery 1 = .ok (.iconst 0, 1) := by decide +kernel
theorem dX9_battery_2 : decode cX9_battery 2 = .ok (.sipush 9999, 3) := by decide +kernel
theorem dX9_battery_5 : decode cX9_battery 5 = .ok (.invokestatic 40, 3) := by decide +kernel
theorem dX9_battery_8 : decode cX9_battery 8 = .ok (.aload_n 0, 1) := by decide +kernel
theorem dX9_battery_9 : decode cX9_battery 9 = .ok (.getfield 29, 3) := by decide +kernel
theorem dX9_battery_12 : decode cX9_battery 12 = .ok (.aload_n 0, 1) := by decide +kernel
theorem dX9_battery_13 : decode cX9_battery 13 = .ok (.getfield 19, 3) := by decide +kernel
theorem dX9_battery_16 : decode cX9_battery 16 = .ok (.invokevirtual 138, 3) := by decide +kernel
theorem dX9_battery_19 : decode cX9_battery 19 = .ok (.aload_n 0, 1) := by decide +kernel
theorem dX9_battery_20 : decode cX9_battery 20 = .ok (.getfield 19, 3) := by decide +kernel
theorem dX9_battery_23 : decode cX9_battery 23 = .ok (.iload_n 1, 1) := by decide +kernel
theorem dX9_battery_24 : decode cX9_battery 24 = .ok (.invokevirtual 176, 3) := by decide +kernel
theorem dX9_battery_27 : decode cX9_battery 27 = .ok (.aload_n 0, 1) := by decide +kernel
theorem dX9_battery_28 : decode cX9_battery 28 = .ok (.getfield 19, 3) := by decide +kernel
theorem dX9_battery_31 : decode cX9_battery 31 = .ok (.getfield 84, 3) := by decide +kernel
theorem dX9_battery_34 : decode cX9_battery 34 = .ok (.invokevirtual 150, 3) := by decide +kernel
theorem dX9_battery_37 : decode cX9_battery 37 = .ok (.ireturn, 1) := by decide +kernel
set_option maxRecDepth 20000 in
theorem ggX9_undo_X2_takeBackInto : GoodIn wsX9_undo wsX2_takeBackInto := goodIn_r _ [10, 11, 12, 13, 14, 15, 16, 17, 18, 19, 20, 21, 22, 23, 24, 25, 26, 27, 28, 29, 30, 31, 32, 33, 34, 35, 36, 37, 38, 39, 40, 41, 42, 43, 44, 45, 46, 47, 48, 49, 50, 51, 52, 53, 54, 55, 56, 57, 58, 59, 60, 61, 62, 63, 64, 65, 66, 67, 68, 69, 75, 76, 77, 78, 79, 80, 81, 82, 83, 84, 85, 86, 87, 88, 89, 90, 91, 92, 93, 94, 95, 96, 97, 98, 99, 100, 101, 102] (by decide +kernel) (by decide +kernel)
set_option maxRecDepth 20000 in
theorem gX9_undo_X2_takeBackInto : GoodIn wsX9_undo (wsV RX9 184 RX2 yX2_takeBackInto wsX2_takeBackInto) := goodIn_app (goodIn_of _ (by decide +kernel)) ggX9_undo_X2_takeBackInto
theorem dX9_undo_0 : decode cX9_undo 0 = .ok (.aload_n 0, 1) := by decide +kernel
theorem dX9_undo_1 : decode cX9_undo 1 = .ok (.getfield 29, 3) := by decide +kernel
theorem dX9_undo_4 : decode cX9_undo 4 = .ok (.getfield 179, 3) := by decide +kernel
theorem dX9_undo_7 : decode cX9_undo 7 = .ok (.ifCond .gt 13, 3) := by decide +kernel
theorem dX9_undo_10 : decode cX9_undo 10 = .ok (.new 48, 3) := by decide +kernel
theorem dX9_undo_13 : decode cX9_undo 13 = .ok (.dup, 1) := by decide +kernel
theorem dX9_undo_14 : decode cX9_undo 14 = .ok (.ldc 182, 2) := by decide +kernel
theorem dX9_undo_16 : decode cX9_undo 16 = .ok (.invokespecial 52, 3) := by decide +kernel
theorem dX9_undo_19 : decode cX9_undo 19 = .ok (.athrow, 1) := by decide +kernel
theorem dX9_undo_20 : decode cX9_undo 20 = .ok (.aload_n 0, 1) := by decide +kernel
theorem dX9_undo_21 : decode cX9_undo 21 = .ok (.getfield 29, 3) := by decide +kernel
theorem dX9_undo_24 : decode cX9_undo 24 = .ok (.aload_n 0, 1) := by decide +kernel
theorem dX9_undo_25 : decode cX9_undo 25 = .ok (.getfield 19, 3) := by decide +kernel
theorem dX9_undo_28 : decode cX9_undo 28 = .ok (.invokevirtual 184, 3) := by decide +kernel
theorem dX9_undo_31 : decode cX9_undo 31 = .ok (.aload_n 0, 1) := by decide +kernel
theorem dX9_undo_32 : decode cX9_undo 32 = .ok (.getfield 29, 3) := by decide +kernel
theorem dX9_undo_35 : decode cX9_undo 35 = .ok (.getfield 179, 3) := by decide +kernel
theorem dX9_undo_38 : decode cX9_undo 38 = .ok (.ireturn, 1) := by decide +kernel
set_option maxRecDepth 20000 in
theorem ggX9_whyNot_X6_domain : GoodIn wsX9_whyNot wsX6_domain := goodIn_r _ [7, 8, 9, 21, 22, 23, 24] (by decide +kernel) (by decide +kernel)
set_option maxRecDepth 20000 in
theorem gX9_whyNot_X6_domain : GoodIn wsX9_whyNot (wsV RX9 150 RX6 yX6_domain wsX6_domain) := goodIn_app (goodIn_of _ (by decide +kernel)) ggX9_whyNot_X6_domain
theorem dX9_whyNot_0 : decode cX9_whyNot 0 = .ok (.aload_n 0, 1) := by decide +kernel
theorem dX9_whyNot_1 : decode cX9_whyNot 1 = .ok (.getfield 19, 3) := by decide +kernel
theorem dX9_whyNot_4 : decode cX9_whyNot 4 = .ok (.getfield 84, 3) := by decide +kernel
theorem dX9_whyNot_7 : decode cX9_whyNot 7 = .ok (.invokevirtual 150, 3) := by decide +kernel
theorem dX9_whyNot_10 : decode cX9_whyNot 10 = .ok (.ireturn, 1) := by decide +kernel
set_option maxRecDepth 20000 in
theorem ggX9_ahead_X9_needRange : GoodIn wsX9_ahead wsX9_needRange := goodIn_ca (goodIn_r _ [7, 8, 9] (by decide +kernel) (by decide +kernel)) (goodIn_sub (fun _ h => List.mem_cons_of_mem _ (List.mem_append_right _ h)) (by decide +kernel))
set_option maxRecDepth 20000 in
theorem gX9_ahead_X9_needRange : GoodIn wsX9_ahead (va_wsS RX9 40 yX9_needRange wsX9_needRange) := goodIn_app (goodIn_of _ (by decide +kernel)) ggX9_ahead_X9_needRange
set_option maxRecDepth 20000 in
theorem ggX9_ahead_X5_copyFrom : GoodIn wsX9_ahead wsX5_copyFrom := goodIn_r _ [14, 15, 16, 17, 18, 19, 20, 21, 22, 23, 24, 25, 26, 27, 28, 29, 30, 31, 32, 33, 34, 35, 36, 37, 38, 39, 40, 41, 42, 43, 44, 45, 46, 47, 48, 49, 50, 51, 52, 53, 54, 55, 56, 57, 58, 59, 60, 61, 62, 63, 64, 65, 66, 166, 167, 168, 169, 170, 171, 172, 173, 174, 175, 176, 177, 178, 179, 180, 181, 182, 183, 184, 185, 186, 187, 188, 189, 190, 191] (by decide +kernel) (by decide +kernel)
set_option maxRecDepth 20000 in
theorem gX9_ahead_X5_copyFrom : GoodIn wsX9_ahead (wsV RX9 66 RX5 yX5_copyFrom wsX5_copyFrom) := goodIn_app (goodIn_of _ (by decide +kernel)) ggX9_ahead_X5_copyFrom
set_option maxRecDepth 20000 in
theorem ggX9_ahead_X5_passMinutes : GoodIn wsX9_ahead wsX5_passMinutes := goodIn_r _ [70, 71, 72, 73, 13, 74, 17, 15, 75, 76, 77, 40, 78, 44, 45, 79, 80, 81, 82, 42, 83, 84, 85, 86, 87, 88, 89, 90, 91, 92, 16, 18, 93, 24, 94, 95, 96, 97, 28, 98, 30, 31, 32, 99, 100, 101, 102, 19, 103, 104, 105, 106, 107, 108, 109, 62, 110, 65, 66, 111, 112, 113, 114, 115, 116, 117, 118, 119, 120, 121, 122, 33, 34, 35, 36, 123, 124, 125, 126, 127, 64, 128, 129, 130, 131, 166, 167, 168, 169, 170, 171, 179, 180, 181, 182, 183, 184, 185, 186, 187, 188, 189, 190, 191, 172, 173, 174, 175, 176, 177, 178] (by decide +kernel) (by decide +kernel)
set_option maxRecDepth 20000 in
theorem gX9_ahead_X5_passMinutes : GoodIn wsX9_ahead (wsV RX9 141 RX5 yX5_passMinutes wsX5_passMinutes) := goodIn_app (goodIn_of _ (by decide +kernel)) ggX9_ahead_X5_passMinutes
set_option maxRecDepth 20000 in
theorem ggX9_ahead_X5_tell : GoodIn wsX9_ahead wsX5_tell := goodIn_r _ [135, 15, 16, 136, 137, 138, 139, 140, 17, 141, 142, 18, 93, 143, 92, 144, 145, 146, 13, 147, 75, 76, 77, 40, 78, 44, 45, 148, 149, 150, 151, 24, 152, 153, 154, 155, 156, 157, 158, 159, 62, 160, 64, 65, 66, 166, 167, 168, 169, 170, 171, 172, 173, 174, 175, 176, 177, 178, 179, 180, 181, 182, 183, 184, 185, 186, 187, 188, 189, 190, 191] (by decide +kernel) (by decide +kernel)
set_option maxRecDepth 20000 in
theorem gX9_ahead_X5_tell : GoodIn wsX9_ahead (wsV RX9 80 RX5 yX5_tell wsX5_tell) := goodIn_app (goodIn_of _ (by decide +kernel)) ggX9_ahead_X5_tell
theorem dX9_ahead_0 : decode cX9_ahead 0 = .ok (.iload_n 1, 1) := by decide +kernel
theorem dX9_ahead_1 : decode cX9_ahead 1 = .ok (.iconst 0, 1) := by decide +kernel
theorem dX9_ahead_2 : decode cX9_ahead 2 = .ok (.sipush 1440, 3) := by decide +kernel
theorem dX9_ahead_5 : decode cX9_ahead 5 = .ok (.invokestatic 40, 3) := by decide +kernel
theorem dX9_ahead_8 : decode cX9_ahead 8 = .ok (.iload_n 2, 1) := by decide +kernel
theorem dX9_ahead_9 : decode cX9_ahead 9 = .ok (.iconst 0, 1) := by decide +kernel
theorem dX9_ahead_10 : decode cX9_ahead 10 = .ok (.getstatic 187, 3) := by decide +kernel
theorem dX9_ahead_13 : decode cX9_ahead 13 = .ok (.arraylength, 1) := by decide +kernel
theorem dX9_ahead_14 : decode cX9_ahead 14 = .ok (.iconst 1, 1) := by decide +kernel
theorem dX9_ahead_15 : decode cX9_ahead 15 = .ok (.isub, 1) := by decide +kernel
theorem dX9_ahead_16 : decode cX9_ahead 16 = .ok (.invokestatic 40, 3) := by decide +kernel
theorem dX9_ahead_19 : decode cX9_ahead 19 = .ok (.aload_n 0, 1) := by decide +kernel
theorem dX9_ahead_20 : decode cX9_ahead 20 = .ok (.getfield 23, 3) := by decide +kernel
theorem dX9_ahead_23 : decode cX9_ahead 23 = .ok (.aload_n 0, 1) := by decide +kernel
theorem dX9_ahead_24 : decode cX9_ahead 24 = .ok (.getfield 19, 3) := by decide +kernel
theorem dX9_ahead_27 : decode cX9_ahead 27 = .ok (.invokevirtual 66, 3) := by decide +kernel
theorem dX9_ahead_30 : decode cX9_ahead 30 = .ok (.aload_n 0, 1) := by decide +kernel
theorem dX9_ahead_31 : decode cX9_ahead 31 = .ok (.getfield 23, 3) := by decide +kernel
theorem dX9_ahead_34 : decode cX9_ahead 34 = .ok (.iload_n 1, 1) := by decide +kernel
theorem dX9_ahead_35 : decode cX9_ahead 35 = .ok (.invokevirtual 141, 3) := by decide +kernel
theorem dX9_ahead_38 : decode cX9_ahead 38 = .ok (.aload_n 0, 1) := by decide +kernel
theorem dX9_ahead_39 : decode cX9_ahead 39 = .ok (.getfield 23, 3) := by decide +kernel
theorem dX9_ahead_42 : decode cX9_ahead 42 = .ok (.getstatic 187, 3) := by decide +kernel
theorem dX9_ahead_45 : decode cX9_ahead 45 = .ok (.iload_n 2, 1) := by decide +kernel
theorem dX9_ahead_46 : decode cX9_ahead 46 = .ok (.iaload, 1) := by decide +kernel
theorem dX9_ahead_47 : decode cX9_ahead 47 = .ok (.invokevirtual 80, 3) := by decide +kernel
theorem dX9_ahead_50 : decode cX9_ahead 50 = .ok (.ireturn, 1) := by decide +kernel
set_option maxRecDepth 20000 in
theorem ggX9_endsAfter_X6_minutesLeft : GoodIn wsX9_endsAfter wsX6_minutesLeft := goodIn_r _ [7, 8, 9, 10, 11, 12, 6, 13, 14, 26, 27, 28, 29] (by decide +kernel) (by decide +kernel)
set_option maxRecDepth 20000 in
theorem gX9_endsAfter_X6_minutesLeft : GoodIn wsX9_endsAfter (wsV RX9 190 RX6 yX6_minutesLeft wsX6_minutesLeft) := goodIn_app (goodIn_of _ (by decide +kernel)) ggX9_endsAfter_X6_minutesLeft
theorem dX9_endsAfter_0 : decode cX9_endsAfter 0 = .ok (.aload_n 0, 1) := by decide +kernel
theorem dX9_endsAfter_1 : decode cX9_endsAfter 1 = .ok (.getfield 19, 3) := by decide +kernel
theorem dX9_endsAfter_4 : decode cX9_endsAfter 4 = .ok (.getfield 84, 3) := by decide +kernel
theorem dX9_endsAfter_7 : decode cX9_endsAfter 7 = .ok (.invokevirtual 190, 3) := by decide +kernel
theorem dX9_endsAfter_10 : decode cX9_endsAfter 10 = .ok (.ireturn, 1) := by decide +kernel
set_option maxRecDepth 20000 in
theorem ggX9_dueAfter_X9_needIndex : GoodIn wsX9_dueAfter wsX9_needIndex := goodIn_ca (goodIn_r _ [9, 10, 11] (by decide +kernel) (by decide +kernel)) (goodIn_sub (fun _ h => List.mem_cons_of_mem _ (List.mem_append_right _ h)) (by decide +kernel))
set_option maxRecDepth 20000 in
theorem gX9_dueAfter_X9_needIndex : GoodIn wsX9_dueAfter (va_wsS RX9 107 yX9_needIndex wsX9_needIndex) := goodIn_app (goodIn_of _ (by decide +kernel)) ggX9_dueAfter_X9_needIndex
set_option maxRecDepth 20000 in
theorem ggX9_dueAfter_X5_copyFrom : GoodIn wsX9_dueAfter wsX5_copyFrom := goodIn_r _ [16, 17, 18, 19, 20, 21, 22, 23, 24, 25, 26, 27, 28, 29, 30, 31, 32, 33, 34, 35, 36, 37, 38, 39, 40, 41, 42, 43, 44, 45, 46, 47, 48, 49, 50, 51, 52, 53, 54, 55, 56, 57, 58, 59, 60, 61, 62, 63, 64, 65, 66, 67, 68, 137, 138, 139, 140, 141, 142, 143, 144, 145, 146, 147, 148, 149, 150, 151, 152, 153, 154, 155, 156, 157, 158, 159, 160, 161, 162] (by decide +kernel) (by decide +kernel)
set_option maxRecDepth 20000 in
theorem gX9_dueAfter_X5_copyFrom : GoodIn wsX9_dueAfter (wsV RX9 66 RX5 yX5_copyFrom wsX5_copyFrom) := goodIn_app (goodIn_of _ (by decide +kernel)) ggX9_dueAfter_X5_copyFrom
set_option maxRecDepth 20000 in
theorem ggX9_dueAfter_X1_minute : GoodIn wsX9_dueAfter wsX1_minute := goodIn_r _ [72, 32, 143, 144, 145, 146, 147, 148, 149] (by decide +kernel) (by decide +kernel)
set_option maxRecDepth 20000 in
theorem gX9_dueAfter_X1_minute : GoodIn wsX9_dueAfter (wsV RX9 193 RX1 yX1_minute wsX1_minute) := goodIn_app (goodIn_of _ (by decide +kernel)) ggX9_dueAfter_X1_minute
set_option maxRecDepth 20000 in
theorem ggX9_dueAfter_X5_passMinute : GoodIn wsX9_dueAfter wsX5_passMinute := goodIn_r _ [76, 19, 17, 77, 78, 79, 42, 80, 46, 47, 81, 82, 83, 84, 44, 85, 86, 87, 88, 15, 89, 90, 91, 92, 93, 94, 18, 20, 95, 26, 96, 97, 98, 99, 30, 100, 32, 33, 34, 101, 102, 103, 104, 21, 105, 106, 107, 108, 109, 110, 111, 64, 112, 67, 68, 113, 114, 115, 116, 117, 70, 71, 72, 118, 119, 120, 121, 35, 36, 37, 38, 122, 123, 124, 125, 126, 66, 127, 128, 129, 130, 137, 138, 139, 140, 141, 142, 150, 151, 152, 153, 154, 155, 156, 157, 158, 159, 160, 161, 162, 143, 144, 145, 146, 147, 148, 149] (by decide +kernel) (by decide +kernel)
set_option maxRecDepth 20000 in
theorem gX9_dueAfter_X5_passMinute : GoodIn wsX9_dueAfter (wsV RX9 195 RX5 yX5_passMinute wsX5_passMinute) := goodIn_app (goodIn_of _ (by decide +kernel)) ggX9_dueAfter_X5_passMinute
set_option maxRecDepth 20000 in
theorem ggX9_dueAfter_X0_isDue : GoodIn wsX9_dueAfter wsX0_isDue := goodIn_r _ [126, 66, 160, 161, 162] (by decide +kernel) (by decide +kernel)
set_option maxRecDepth 20000 in
theorem gX9_dueAfter_X0_isDue : GoodIn wsX9_dueAfter (wsV RX9 198 RX0 yX0_isDue wsX0_isDue) := goodIn_app (goodIn_of _ (by decide +kernel)) ggX9_dueAfter_X0_isDue
theorem dX9_dueAfter_0 : decode cX9_dueAfter 0 = .ok (.iload_n 1, 1) := by decide +kernel
theorem dX9_dueAfter_1 : decode cX9_dueAfter 1 = .ok (.iconst 4, 1) := by decide +kernel
theorem dX9_dueAfter_2 : decode cX9_dueAfter 2 = .ok (.invokestatic 107, 3) := by decide +kernel
theorem dX9_dueAfter_5 : decode cX9_dueAfter 5 = .ok (.aload_n 0, 1) := by decide +kernel
theorem dX9_dueAfter_6 : decode cX9_dueAfter 6 = .ok (.getfield 23, 3) := by decide +kernel
theorem dX9_dueAfter_9 : decode cX9_dueAfter 9 = .ok (.aload_n 0, 1) := by decide +kernel
theorem dX9_dueAfter_10 : decode cX9_dueAfter 10 = .ok (.getfield 19, 3) := by decide +kernel
theorem dX9_dueAfter_13 : decode cX9_dueAfter 13 = .ok (.invokevirtual 66, 3) := by decide +kernel
theorem dX9_dueAfter_16 : decode cX9_dueAfter 16 = .ok (.iconst 1, 1) := by decide +kernel
theorem dX9_dueAfter_17 : decode cX9_dueAfter 17 = .ok (.istore_n 2, 1) := by decide +kernel
theorem dX9_dueAfter_18 : decode cX9_dueAfter 18 = .ok (.iload_n 2, 1) := by decide +kernel
theorem dX9_dueAfter_19 : decode cX9_dueAfter 19 = .ok (.sipush 3000, 3) := by decide +kernel
theorem dX9_dueAfter_22 : decode cX9_dueAfter 22 = .ok (.if_icmp .gt 55, 3) := by decide +kernel
theorem dX9_dueAfter_25 : decode cX9_dueAfter 25 = .ok (.aload_n 0, 1) := by decide +kernel
theorem dX9_dueAfter_26 : decode cX9_dueAfter 26 = .ok (.getfield 23, 3) := by decide +kernel
theorem dX9_dueAfter_29 : decode cX9_dueAfter 29 = .ok (.getfield 94, 3) := by decide +kernel
theorem dX9_dueAfter_32 : decode cX9_dueAfter 32 = .ok (.invokevirtual 193, 3) := by decide +kernel
theorem dX9_dueAfter_35 : decode cX9_dueAfter 35 = .ok (.istore_n 3, 1) := by decide +kernel
theorem dX9_dueAfter_36 : decode cX9_dueAfter 36 = .ok (.aload_n 0, 1) := by decide +kernel
theorem dX9_dueAfter_37 : decode cX9_dueAfter 37 = .ok (.getfield 23, 3) := by decide +kernel
theorem dX9_dueAfter_40 : decode cX9_dueAfter 40 = .ok (.invokevirtual 195, 3) := by decide +kernel
theorem dX9_dueAfter_43 : decode cX9_dueAfter 43 = .ok (.aload_n 0, 1) := by decide +kernel
theorem dX9_dueAfter_44 : decode cX9_dueAfter 44 = .ok (.getfield 23, 3) := by decide +kernel
theorem dX9_dueAfter_47 : decode cX9_dueAfter 47 = .ok (.getfield 131, 3) := by decide +kernel
theorem dX9_dueAfter_50 : decode cX9_dueAfter 50 = .ok (.iload_n 1, 1) := by decide +kernel
theorem dX9_dueAfter_51 : decode cX9_dueAfter 51 = .ok (.aaload, 1) := by decide +kernel
theorem dX9_dueAfter_52 : decode cX9_dueAfter 52 = .ok (.iload_n 3, 1) := by decide +kernel
theorem dX9_dueAfter_53 : decode cX9_dueAfter 53 = .ok (.aload_n 0, 1) := by decide +kernel
theorem dX9_dueAfter_54 : decode cX9_dueAfter 54 = .ok (.getfield 23, 3) := by decide +kernel
theorem dX9_dueAfter_57 : decode cX9_dueAfter 57 = .ok (.getfield 94, 3) := by decide +kernel
theorem dX9_dueAfter_60 : decode cX9_dueAfter 60 = .ok (.invokevirtual 193, 3) := by decide +kernel
theorem dX9_dueAfter_63 : decode cX9_dueAfter 63 = .ok (.invokevirtual 198, 3) := by decide +kernel
theorem dX9_dueAfter_66 : decode cX9_dueAfter 66 = .ok (.ifCond .eq 5, 3) := by decide +kernel
theorem dX9_dueAfter_69 : decode cX9_dueAfter 69 = .ok (.iload_n 2, 1) := by decide +kernel
theorem dX9_dueAfter_70 : decode cX9_dueAfter 70 = .ok (.ireturn, 1) := by decide +kernel
theorem dX9_dueAfter_71 : decode cX9_dueAfter 71 = .ok (.iinc 2 1, 3) := by decide +kernel
theorem dX9_dueAfter_74 : decode cX9_dueAfter 74 = .ok (.goto (-56), 3) := by decide +kernel
theorem dX9_dueAfter_77 : decode cX9_dueAfter 77 = .ok (.ldc 63, 2) := by decide +kernel
theorem dX9_dueAfter_79 : decode cX9_dueAfter 79 = .ok (.ireturn, 1) := by decide +kernel
set_option maxRecDepth 20000 in
theorem ggX9_bestCorrection_X9_needRange : GoodIn wsX9_bestCorrection wsX9_needRange := goodIn_ca (goodIn_r _ [5, 6, 7] (by decide +kernel) (by decide +kernel)) (goodIn_sub (fun _ h => List.mem_cons_of_mem _ (List.mem_append_right _ h)) (by decide +kernel))
set_option maxRecDepth 20000 in
theorem gX9_bestCorrection_X9_needRange : GoodIn wsX9_bestCorrection (va_wsS RX9 40 yX9_needRange wsX9_needRange) := goodIn_app (goodIn_of _ (by decide +kernel)) ggX9_bestCorrection_X9_needRange
set_option maxRecDepth 20000 in
theorem ggX9_bestCorrection_X5_isDeadWithin : GoodIn wsX9_bestCorrection wsX5_isDeadWithin := goodIn_r _ [12, 13, 14, 15, 16, 17, 18, 19, 20, 21, 22, 23, 24, 25, 26, 59, 60, 61, 62, 63, 64, 65, 66, 67, 68] (by decide +kernel) (by decide +kernel)
set_option maxRecDepth 20000 in
theorem gX9_bestCorrection_X5_isDeadWithin : GoodIn wsX9_bestCorrection (wsV RX9 202 RX5 yX5_isDeadWithin wsX5_isDeadWithin) := goodIn_app (goodIn_of _ (by decide +kernel)) ggX9_bestCorrection_X5_isDeadWithin
set_option maxRecDepth 20000 in
theorem ggX9_bestCorrection_X5_nearer : GoodIn wsX9_bestCorrection wsX5_nearer := goodIn_r _ [30, 31, 32, 33, 11, 34, 35, 36, 37, 38, 39, 40, 41, 42, 43, 44, 45, 46, 47, 48, 49, 50, 51, 52, 53, 59, 60, 61, 62, 63, 64, 69, 70, 71, 72, 73, 74, 75] (by decide +kernel) (by decide +kernel)
set_option maxRecDepth 20000 in
theorem gX9_bestCorrection_X5_nearer : GoodIn wsX9_bestCorrection (wsV RX9 206 RX5 yX5_nearer wsX5_nearer) := goodIn_app (goodIn_of _ (by decide +kernel)) ggX9_bestCorrection_X5_nearer
theorem dX9_bestCorrection_0 : decode cX9_bestCorrection 0 = .ok (.iload_n 1, 1) := by decide +kernel
theorem dX9_bestCorrection_1 : decode cX9_bestCorrection 1 = .ok (.iconst 1, 1) := by decide +kernel
theorem dX9_bestCorrection_2 : decode cX9_bestCorrection 2 = .ok (.sipush 600, 3) := by decide +kernel
theorem dX9_bestCorrection_5 : decode cX9_bestCorrection 5 = .ok (.invokestatic 40, 3) := by decide +kernel
theorem dX9_bestCorrection_8 : decode cX9_bestCorrection 8 = .ok (.aload_n 0, 1) := by decide +kernel
theorem dX9_bestCorrection_9 : decode cX9_bestCorrection 9 = .ok (.getfield 19, 3) := by decide +kernel
theorem dX9_bestCorrection_12 : decode cX9_bestCorrection 12 = .ok (.iload_n 1, 1) := by decide +kernel
theorem dX9_bestCorrection_13 : decode cX9_bestCorrection 13 = .ok (.invokevirtual 202, 3) := by decide +kernel
theorem dX9_bestCorrection_16 : decode cX9_bestCorrection 16 = .ok (.ifCond .eq 5, 3) := by decide +kernel
theorem dX9_bestCorrection_19 : decode cX9_bestCorrection 19 = .ok (.iconst 0, 1) := by decide +kernel
theorem dX9_bestCorrection_20 : decode cX9_bestCorrection 20 = .ok (.ireturn, 1) := by decide +kernel
theorem dX9_bestCorrection_21 : decode cX9_bestCorrection 21 = .ok (.iconst 0, 1) := by decide +kernel
theorem dX9_bestCorrection_22 : decode cX9_bestCorrection 22 = .ok (.istore_n 2, 1) := by decide +kernel
theorem dX9_bestCorrection_23 : decode cX9_bestCorrection 23 = .ok (.iconst 1, 1) := by decide +kernel
theorem dX9_bestCorrection_24 : decode cX9_bestCorrection 24 = .ok (.istore_n 3, 1) := by decide +kernel
theorem dX9_bestCorrection_25 : decode cX9_bestCorrection 25 = .ok (.iload_n 3, 1) := by decide +kernel
theorem dX9_bestCorrection_26 : decode cX9_bestCorrection 26 = .ok (.sipush 500, 3) := by decide +kernel
theorem dX9_bestCorrection_29 : decode cX9_bestCorrection 29 = .ok (.if_icmp .gt 32, 3) := by decide +kernel
theorem dX9_bestCorrection_32 : decode cX9_bestCorrection 32 = .ok (.aload_n 0, 1) := by decide +kernel
theorem dX9_bestCorrection_33 : decode cX9_bestCorrection 33 = .ok (.getfield 19, 3) := by decide +kernel
theorem dX9_bestCorrection_36 : decode cX9_bestCorrection 36 = .ok (.iload_n 1, 1) := by decide +kernel
theorem dX9_bestCorrection_37 : decode cX9_bestCorrection 37 = .ok (.iload_n 2, 1) := by decide +kernel
theorem dX9_bestCorrection_38 : decode cX9_bestCorrection 38 = .ok (.iload_n 3, 1) := by decide +kernel
theorem dX9_bestCorrection_39 : decode cX9_bestCorrection 39 = .ok (.ineg, 1) := by decide +kernel
theorem dX9_bestCorrection_40 : decode cX9_bestCorrection 40 = .ok (.invokevirtual 206, 3) := by decide +kernel
theorem dX9_bestCorrection_43 : decode cX9_bestCorrection 43 = .ok (.istore_n 2, 1) := by decide +kernel
theorem dX9_bestCorrection_44 : decode cX9_bestCorrection 44 = .ok (.aload_n 0, 1) := by decide +kernel
theorem dX9_bestCorrection_45 : decode cX9_bestCorrection 45 = .ok (.getfield 19, 3) := by decide +kernel
theorem dX9_bestCorrection_48 : decode cX9_bestCorrection 48 = .ok (.iload_n 1, 1) := by decide +kernel
theorem dX9_bestCorrection_49 : decode cX9_bestCorrection 49 = .ok (.iload_n 2, 1) := by decide +kernel
theorem dX9_bestCorrection_50 : decode cX9_bestCorrection 50 = .ok (.iload_n 3, 1) := by decide +kernel
theorem dX9_bestCorrection_51 : decode cX9_bestCorrection 51 = .ok (.invokevirtual 206, 3) := by decide +kernel
theorem dX9_bestCorrection_54 : decode cX9_bestCorrection 54 = .ok (.istore_n 2, 1) := by decide +kernel
theorem dX9_bestCorrection_55 : decode cX9_bestCorrection 55 = .ok (.iinc 3 1, 3) := by decide +kernel
theorem dX9_bestCorrection_58 : decode cX9_bestCorrection 58 = .ok (.goto (-33), 3) := by decide +kernel
theorem dX9_bestCorrection_61 : decode cX9_bestCorrection 61 = .ok (.iload_n 2, 1) := by decide +kernel
theorem dX9_bestCorrection_62 : decode cX9_bestCorrection 62 = .ok (.ireturn, 1) := by decide +kernel
set_option maxRecDepth 20000 in
theorem ggX9_runScript_X9_needRange : GoodIn wsX9_runScript wsX9_needRange := goodIn_ca (goodIn_r _ [9, 1, 2] (by decide +kernel) (by decide +kernel)) (goodIn_sub (fun _ h => List.mem_cons_of_mem _ (List.mem_append_right _ h)) (by decide +kernel))
set_option maxRecDepth 20000 in
theorem gX9_runScript_X9_needRange : GoodIn wsX9_runScript (va_wsS RX9 40 yX9_needRange wsX9_needRange) := goodIn_app (goodIn_of _ (by decide +kernel)) ggX9_runScript_X9_needRange
set_option maxRecDepth 20000 in
theorem ggX9_runScript_X3_fits : GoodIn wsX9_runScript wsX3_fits := goodIn_r _ [13, 14] (by decide +kernel) (by decide +kernel)
set_option maxRecDepth 20000 in
theorem gX9_runScript_X3_fits : GoodIn wsX9_runScript (va_wsS RX9 210 yX3_fits wsX3_fits) := goodIn_app (goodIn_of _ (by decide +kernel)) ggX9_runScript_X3_fits
set_option maxRecDepth 20000 in
theorem ggX9_runScript_X5_copyFrom : GoodIn wsX9_runScript wsX5_copyFrom := goodIn_r _ [19, 20, 21, 22, 23, 24, 25, 26, 27, 28, 29, 30, 31, 32, 33, 34, 35, 36, 37, 38, 39, 40, 41, 42, 43, 44, 45, 46, 47, 48, 49, 50, 51, 52, 53, 54, 55, 56, 57, 58, 59, 60, 61, 62, 63, 64, 65, 66, 67, 68, 69, 70, 71, 203, 204, 205, 206, 207, 208, 209, 210, 211, 212, 213, 214, 215, 216, 217, 218, 219, 220, 221, 222, 223, 224, 225, 226, 227, 228] (by decide +kernel) (by decide +kernel)
set_option maxRecDepth 20000 in
theorem gX9_runScript_X5_copyFrom : GoodIn wsX9_runScript (wsV RX9 66 RX5 yX5_copyFrom wsX5_copyFrom) := goodIn_app (goodIn_of _ (by decide +kernel)) ggX9_runScript_X5_copyFrom
set_option maxRecDepth 20000 in
theorem ggX9_runScript_X3_command : GoodIn wsX9_runScript wsX3_command := goodIn_r _ [74, 14] (by decide +kernel) (by decide +kernel)
set_option maxRecDepth 20000 in
theorem gX9_runScript_X3_command : GoodIn wsX9_runScript (va_wsS RX9 221 yX3_command wsX3_command) := goodIn_app (goodIn_of _ (by decide +kernel)) ggX9_runScript_X3_command
set_option maxRecDepth 20000 in
theorem ggX9_runScript_X3_runs : GoodIn wsX9_runScript wsX3_runs := goodIn_r _ [77, 78, 79, 80, 81, 12, 82, 83, 84, 85, 18, 86, 87, 88, 89, 90, 22, 20, 91, 92, 93, 45, 94, 49, 50, 95, 96, 97, 98, 47, 99, 100, 101, 102, 103, 104, 105, 106, 107, 108, 21, 23, 109, 29, 110, 111, 112, 113, 33, 114, 35, 36, 37, 115, 116, 117, 118, 24, 119, 120, 121, 122, 123, 124, 125, 67, 126, 70, 71, 127, 128, 129, 130, 131, 132, 133, 134, 135, 136, 137, 138, 38, 39, 40, 41, 139, 140, 141, 142, 143, 69, 144, 145, 146, 147, 148, 149, 150, 151, 152, 153, 154, 155, 156, 157, 158, 159, 160, 161, 162, 163, 164, 165, 166, 167, 168, 169, 170, 171, 172, 173, 174, 175, 176, 177, 178, 179, 180, 181, 182, 55, 183, 63, 62, 59, 60, 61, 184, 185, 186, 187, 188, 189, 190, 191, 192, 193, 194, 195, 196, 197, 203, 204, 205, 206, 207, 208, 216, 217, 218, 219, 220, 221, 222, 223, 224, 225, 226, 227, 228, 209, 210, 211, 212, 213, 214, 215] (by decide +kernel) (by decide +kernel)
set_option maxRecDepth 20000 in
theorem gX9_runScript_X3_runs : GoodIn wsX9_runScript (va_wsS RX9 225 yX3_runs wsX3_runs) := goodIn_app (goodIn_of _ (by decide +kernel)) ggX9_runScript_X3_runs
theorem dX9_runScript_0 : decode cX9_runScript 0 = .ok (.iload_n 1, 1) := by decide +kernel
theorem dX9_runScript_1 : decode cX9_runScript 1 = .ok (.iconst 1, 1) := by decide +kernel
theorem dX9_runScript_2 : decode cX9_runScript 2 = .ok (.iconst 3, 1) := by decide +kernel
theorem dX9_runScript_3 : decode cX9_runScript 3 = .ok (.invokestatic 40, 3) := by decide +kernel
theorem dX9_runScript_6 : decode cX9_runScript 6 = .ok (.lload_n 2, 1) := by decide +kernel
theorem dX9_runScript_7 : decode cX9_runScript 7 = .ok (.lconst 0, 1) := by decide +kernel
theorem dX9_runScript_8 : decode cX9_runScript 8 = .ok (.lcmp, 1) := by decide +kernel
theorem dX9_runScript_9 : decode cX9_runScript 9 = .ok (.ifCond .lt 11, 3) := by decide +kernel
theorem dX9_runScript_12 : decode cX9_runScript 12 = .ok (.iload_n 1, 1) := by decide +kernel
theorem dX9_runScript_13 : decode cX9_runScript 13 = .ok (.lload_n 2, 1) := by decide +kernel
theorem dX9_runScript_14 : decode cX9_runScript 14 = .ok (.invokestatic 210, 3) := by decide +kernel
theorem dX9_runScript_17 : decode cX9_runScript 17 = .ok (.ifCond .ne 13, 3) := by decide +kernel
theorem dX9_runScript_20 : decode cX9_runScript 20 = .ok (.new 216, 3) := by decide +kernel
theorem dX9_runScript_23 : decode cX9_runScript 23 = .ok (.dup, 1) := by decide +kernel
theorem dX9_runScript_24 : decode cX9_runScript 24 = .ok (.ldc 218, 2) := by decide +kernel
theorem dX9_runScript_26 : decode cX9_runScript 26 = .ok (.invokespecial 220, 3) := by decide +kernel
theorem dX9_runScript_29 : decode cX9_runScript 29 = .ok (.athrow, 1) := by decide +kernel
theorem dX9_runScript_30 : decode cX9_runScript 30 = .ok (.aload_n 0, 1) := by decide +kernel
theorem dX9_runScript_31 : decode cX9_runScript 31 = .ok (.getfield 23, 3) := by decide +kernel
theorem dX9_runScript_34 : decode cX9_runScript 34 = .ok (.aload_n 0, 1) := by decide +kernel
theorem dX9_runScript_35 : decode cX9_runScript 35 = .ok (.getfield 19, 3) := by decide +kernel
theorem dX9_runScript_38 : decode cX9_runScript 38 = .ok (.invokevirtual 66, 3) := by decide +kernel
theorem dX9_runScript_41 : decode cX9_runScript 41 = .ok (.iconst 0, 1) := by decide +kernel
theorem dX9_runScript_42 : decode cX9_runScript 42 = .ok (.istore 4, 2) := by decide +kernel
theorem dX9_runScript_44 : decode cX9_runScript 44 = .ok (.iload 4, 2) := by decide +kernel
theorem dX9_runScript_46 : decode cX9_runScript 46 = .ok (.iload_n 1, 1) := by decide +kernel
theorem dX9_runScript_47 : decode cX9_runScript 47 = .ok (.if_icmp .ge 29, 3) := by decide +kernel
theorem dX9_runScript_50 : decode cX9_runScript 50 = .ok (.aload_n 0, 1) := by decide +kernel
theorem dX9_runScript_51 : decode cX9_runScript 51 = .ok (.getfield 23, 3) := by decide +kernel
theorem dX9_runScript_54 : decode cX9_runScript 54 = .ok (.iload_n 1, 1) := by decide +kernel
theorem dX9_runScript_55 : decode cX9_runScript 55 = .ok (.lload_n 2, 1) := by decide +kernel
theorem dX9_runScript_56 : decode cX9_runScript 56 = .ok (.iload 4, 2) := by decide +kernel
theorem dX9_runScript_58 : decode cX9_runScript 58 = .ok (.invokestatic 221, 3) := by decide +kernel
theorem dX9_runScript_61 : decode cX9_runScript 61 = .ok (.invokestatic 225, 3) := by decide +kernel
theorem dX9_runScript_64 : decode cX9_runScript 64 = .ok (.ifCond .ne 6, 3) := by decide +kernel
theorem dX9_runScript_67 : decode cX9_runScript 67 = .ok (.iload 4, 2) := by decide +kernel
theorem dX9_runScript_69 : decode cX9_runScript 69 = .ok (.ireturn, 1) := by decide +kernel
theorem dX9_runScript_70 : decode cX9_runScript 70 = .ok (.iinc 4 1, 3) := by decide +kernel
theorem dX9_runScript_73 : decode cX9_runScript 73 = .ok (.goto (-29), 3) := by decide +kernel
theorem dX9_runScript_76 : decode cX9_runScript 76 = .ok (.ldc 63, 2) := by decide +kernel
theorem dX9_runScript_78 : decode cX9_runScript 78 = .ok (.ireturn, 1) := by decide +kernel
set_option maxRecDepth 20000 in
theorem ggX9_simulate_X9_needRange : GoodIn wsX9_simulate wsX9_needRange := goodIn_ca (goodIn_r _ [12, 13, 14] (by decide +kernel) (by decide +kernel)) (goodIn_sub (fun _ h => List.mem_cons_of_mem _ (List.mem_append_right _ h)) (by decide +kernel))
set_option maxRecDepth 20000 in
theorem gX9_simulate_X9_needRange : GoodIn wsX9_simulate (va_wsS RX9 40 yX9_needRange wsX9_needRange) := goodIn_app (goodIn_of _ (by decide +kernel)) ggX9_simulate_X9_needRange
set_option maxRecDepth 20000 in
theorem ggX9_simulate_X5_copyFrom : GoodIn wsX9_simulate wsX5_copyFrom := goodIn_r _ [19, 20, 21, 22, 23, 24, 25, 26, 27, 28, 29, 30, 31, 32, 33, 34, 35, 36, 37, 38, 39, 40, 41, 42, 43, 44, 45, 46, 47, 48, 49, 50, 51, 52, 53, 54, 55, 56, 57, 58, 59, 60, 61, 62, 63, 64, 65, 66, 67, 68, 69, 70, 71, 158, 159, 160, 161, 162, 163, 174, 175, 176, 177, 178, 179, 180, 164, 165, 166, 167, 168, 169, 170, 171, 172, 173, 181, 182, 183] (by decide +kernel) (by decide +kernel)
set_option maxRecDepth 20000 in
theorem gX9_simulate_X5_copyFrom : GoodIn wsX9_simulate (wsV RX9 66 RX5 yX5_copyFrom wsX5_copyFrom) := goodIn_app (goodIn_of _ (by decide +kernel)) ggX9_simulate_X5_copyFrom
set_option maxRecDepth 20000 in
theorem ggX9_simulate_X5_changeLevel : GoodIn wsX9_simulate wsX5_changeLevel := goodIn_r _ [75, 22, 76, 77, 78, 79, 45, 80, 49, 50, 81, 82, 83, 18, 84, 85, 86, 87, 88, 89, 21, 23, 90, 29, 91, 92, 93, 94, 33, 95, 35, 36, 37, 96, 97, 98, 99, 24, 100, 101, 102, 103, 104, 105, 106, 67, 107, 70, 71, 158, 159, 160, 161, 162, 163, 164, 165, 166, 167, 168, 169, 170, 171, 172, 173, 181, 182, 183, 174, 175, 176, 177, 178, 179, 180] (by decide +kernel) (by decide +kernel)
set_option maxRecDepth 20000 in
theorem gX9_simulate_X5_changeLevel : GoodIn wsX9_simulate (wsV RX9 147 RX5 yX5_changeLevel wsX5_changeLevel) := goodIn_app (goodIn_of _ (by decide +kernel)) ggX9_simulate_X5_changeLevel
set_option maxRecDepth 20000 in
theorem ggX9_simulate_X5_tamperAt : GoodIn wsX9_simulate wsX5_tamperAt := goodIn_r _ [111, 23, 112, 22, 21, 113, 77, 78, 79, 45, 80, 49, 50, 96, 97, 98, 18, 99, 24, 114, 115, 116, 55, 117, 63, 62, 59, 60, 61, 158, 159, 160, 161, 162, 163, 168, 169, 170, 171, 172, 173, 174, 175, 176, 177, 178, 179, 180, 164, 165, 166, 167] (by decide +kernel) (by decide +kernel)
set_option maxRecDepth 20000 in
theorem gX9_simulate_X5_tamperAt : GoodIn wsX9_simulate (wsV RX9 169 RX5 yX5_tamperAt wsX5_tamperAt) := goodIn_app (goodIn_of _ (by decide +kernel)) ggX9_simulate_X5_tamperAt
set_option maxRecDepth 20000 in
theorem ggX9_simulate_X5_passMinutes : GoodIn wsX9_simulate wsX5_passMinutes := goodIn_r _ [121, 122, 123, 124, 18, 125, 22, 20, 77, 78, 79, 45, 80, 49, 50, 126, 127, 128, 129, 47, 130, 81, 82, 83, 84, 85, 86, 87, 88, 89, 21, 23, 90, 29, 91, 92, 93, 94, 33, 95, 35, 36, 37, 96, 97, 98, 99, 24, 100, 101, 102, 103, 104, 105, 106, 67, 107, 70, 71, 131, 132, 133, 134, 135, 136, 137, 138, 139, 140, 141, 142, 38, 39, 40, 41, 143, 144, 145, 146, 147, 69, 148, 149, 150, 151, 158, 159, 160, 161, 162, 163, 164, 165, 166, 167, 168, 169, 170, 171, 172, 173, 181, 182, 183, 174, 175, 176, 177, 178, 179, 180] (by decide +kernel) (by decide +kernel)
set_option maxRecDepth 20000 in
theorem gX9_simulate_X5_passMinutes : GoodIn wsX9_simulate (wsV RX9 141 RX5 yX5_passMinutes wsX5_passMinutes) := goodIn_app (goodIn_of _ (by decide +kernel)) ggX9_simulate_X5_passMinutes
set_option maxRecDepth 20000 in
theorem ggX9_simulate_X6_domain : GoodIn wsX9_simulate wsX6_domain := goodIn_r _ [80, 49, 50, 164, 165, 166, 167] (by decide +kernel) (by decide +kernel)
set_option maxRecDepth 20000 in
theorem gX9_simulate_X6_domain : GoodIn wsX9_simulate (wsV RX9 150 RX6 yX6_domain wsX6_domain) := goodIn_app (goodIn_of _ (by decide +kernel)) ggX9_simulate_X6_domain
theorem dX9_simulate_0 : decode cX9_simulate 0 = .ok (.iload_n 3, 1) := by decide +kernel
theorem dX9_simulate_1 : decode cX9_simulate 1 = .ok (.iconst 1, 1) := by decide +kernel
theorem dX9_simulate_2 : decode cX9_simulate 2 = .ok (.bipush 60, 2) := by decide +kernel
theorem dX9_simulate_4 : decode cX9_simulate 4 = .ok (.invokestatic 40, 3) := by decide +kernel
theorem dX9_simulate_7 : decode cX9_simulate 7 = .ok (.aload_n 0, 1) := by decide +kernel
theorem dX9_simulate_8 : decode cX9_simulate 8 = .ok (.getfield 23, 3) := by decide +kernel
theorem dX9_simulate_11 : decode cX9_simulate 11 = .ok (.aload_n 0, 1) := by decide +kernel
theorem dX9_simulate_12 : decode cX9_simulate 12 = .ok (.getfield 19, 3) := by decide +kernel
theorem dX9_simulate_15 : decode cX9_simulate 15 = .ok (.invokevirtual 66, 3) := by decide +kernel
theorem dX9_simulate_18 : decode cX9_simulate 18 = .ok (.lload_n 1, 1) := by decide +kernel
theorem dX9_simulate_19 : decode cX9_simulate 19 = .ok (.lstore 4, 2) := by decide +kernel
theorem dX9_simulate_21 : decode cX9_simulate 21 = .ok (.iconst 0, 1) := by decide +kernel
theorem dX9_simulate_22 : decode cX9_simulate 22 = .ok (.istore 6, 2) := by decide +kernel
theorem dX9_simulate_24 : decode cX9_simulate 24 = .ok (.iload 6, 2) := by decide +kernel
theorem dX9_simulate_26 : decode cX9_simulate 26 = .ok (.iload_n 3, 1) := by decide +kernel
theorem dX9_simulate_27 : decode cX9_simulate 27 = .ok (.if_icmp .ge 95, 3) := by decide +kernel
theorem dX9_simulate_30 : decode cX9_simulate 30 = .ok (.lload 4, 2) := by decide +kernel
theorem dX9_simulate_32 : decode cX9_simulate 32 = .ok (.ldc2_w 229, 3) := by decide +kernel
theorem dX9_simulate_35 : decode cX9_simulate 35 = .ok (.lmul, 1) := by decide +kernel
theorem dX9_simulate_36 : decode cX9_simulate 36 = .ok (.ldc2_w 231, 3) := by decide +kernel
theorem dX9_simulate_39 : decode cX9_simulate 39 = .ok (.ladd, 1) := by decide +kernel
theorem dX9_simulate_40 : decode cX9_simulate 40 = .ok (.lstore 4, 2) := by decide +kernel
theorem dX9_simulate_42 : decode cX9_simulate 42 = .ok (.lload 4, 2) := by decide +kernel
theorem dX9_simulate_44 : decode cX9_simulate 44 = .ok (.bipush 33, 2) := by decide +kernel
theorem dX9_simulate_46 : decode cX9_simulate 46 = .ok (.lushr, 1) := by decide +kernel
theorem dX9_simulate_47 : decode cX9_simulate 47 = .ok (.l2i, 1) := by decide +kernel
theorem dX9_simulate_48 : decode cX9_simulate 48 = .ok (.istore 7, 2) := by decide +kernel
theorem dX9_simulate_50 : decode cX9_simulate 50 = .ok (.iload 7, 2) := by decide +kernel
theorem dX9_simulate_52 : decode cX9_simulate 52 = .ok (.bipush 8, 2) := by decide +kernel
theorem dX9_simulate_54 : decode cX9_simulate 54 = .ok (.irem, 1) := by decide +kernel
theorem dX9_simulate_55 : decode cX9_simulate 55 = .ok (.ifCond .ne 21, 3) := by decide +kernel
theorem dX9_simulate_58 : decode cX9_simulate 58 = .ok (.aload_n 0, 1) := by decide +kernel
theorem dX9_simulate_59 : decode cX9_simulate 59 = .ok (.getfield 23, 3) := by decide +kernel
theorem dX9_simulate_62 : decode cX9_simulate 62 = .ok (.iload 7, 2) := by decide +kernel
theorem dX9_simulate_64 : decode cX9_simulate 64 = .ok (.bipush 8, 2) := by decide +kernel
theorem dX9_simulate_66 : decode cX9_simulate 66 = .ok (.idiv, 1) := by decide +kernel
theorem dX9_simulate_67 : decode cX9_simulate 67 = .ok (.bipush 10, 2) := by decide +kernel
theorem dX9_simulate_69 : decode cX9_simulate 69 = .ok (.irem, 1) := by decide +kernel
theorem dX9_simulate_70 : decode cX9_simulate 70 = .ok (.invokevirtual 147, 3) := by decide +kernel
theorem dX9_simulate_73 : decode cX9_simulate 73 = .ok (.goto 26, 3) := by decide +kernel
theorem dX9_simulate_76 : decode cX9_simulate 76 = .ok (.iload 7, 2) := by decide +kernel
theorem dX9_simulate_78 : decode cX9_simulate 78 = .ok (.bipush 8, 2) := by decide +kernel
theorem dX9_simulate_80 : decode cX9_simulate 80 = .ok (.irem, 1) := by decide +kernel
theorem dX9_simulate_81 : decode cX9_simulate 81 = .ok (.iconst 1, 1) := by decide +kernel
theorem dX9_simulate_82 : decode cX9_simulate 82 = .ok (.if_icmp .ne 17, 3) := by decide +kernel
theorem dX9_simulate_85 : decode cX9_simulate 85 = .ok (.aload_n 0, 1) := by decide +kernel
theorem dX9_simulate_86 : decode cX9_simulate 86 = .ok (.getfield 23, 3) := by decide +kernel
theorem dX9_simulate_89 : decode cX9_simulate 89 = .ok (.iload 7, 2) := by decide +kernel
theorem dX9_simulate_91 : decode cX9_simulate 91 = .ok (.bipush 8, 2) := by decide +kernel
theorem dX9_simulate_93 : decode cX9_simulate 93 = .ok (.idiv, 1) := by decide +kernel
theorem dX9_simulate_94 : decode cX9_simulate 94 = .ok (.iconst 3, 1) := by decide +kernel
theorem dX9_simulate_95 : decode cX9_simulate 95 = .ok (.irem, 1) := by decide +kernel
theorem dX9_simulate_96 : decode cX9_simulate 96 = .ok (.invokevirtual 169, 3) := by decide +kernel
theorem dX9_simulate_99 : decode cX9_simulate 99 = .ok (.aload_n 0, 1) := by decide +kernel
theorem dX9_simulate_100 : decode cX9_simulate 100 = .ok (.getfield 23, 3) := by decide +kernel
theorem dX9_simulate_103 : decode cX9_simulate 103 = .ok (.iconst 1, 1) := by decide +kernel
theorem dX9_simulate_104 : decode cX9_simulate 104 = .ok (.iload 7, 2) := by decide +kernel
theorem dX9_simulate_106 : decode cX9_simulate 106 = .ok (.bipush 64, 2) := by decide +kernel
theorem dX9_simulate_108 : decode cX9_simulate 108 = .ok (.idiv, 1) := by decide +kernel
theorem dX9_simulate_109 : decode cX9_simulate 109 = .ok (.bipush 60, 2) := by decide +kernel
theorem dX9_simulate_111 : decode cX9_simulate 111 = .ok (.irem, 1) := by decide +kernel
theorem dX9_simulate_112 : decode cX9_simulate 112 = .ok (.iadd, 1) := by decide +kernel
theorem dX9_simulate_113 : decode cX9_simulate 113 = .ok (.invokevirtual 141, 3) := by decide +kernel
theorem dX9_simulate_116 : decode cX9_simulate 116 = .ok (.iinc 6 1, 3) := by decide +kernel
theorem dX9_simulate_119 : decode cX9_simulate 119 = .ok (.goto (-95), 3) := by decide +kernel
theorem dX9_simulate_122 : decode cX9_simulate 122 = .ok (.bipush 100, 2) := by decide +kernel
theorem dX9_simulate_124 : decode cX9_simulate 124 = .ok (.aload_n 0, 1) := by decide +kernel
theorem dX9_simulate_125 : decode cX9_simulate 125 = .ok (.getfield 23, 3) := by decide +kernel
theorem dX9_simulate_128 : decode cX9_simulate 128 = .ok (.getfield 84, 3) := by decide +kernel
theorem dX9_simulate_131 : decode cX9_simulate 131 = .ok (.getfield 233, 3) := by decide +kernel
theorem dX9_simulate_134 : decode cX9_simulate 134 = .ok (.imul, 1) := by decide +kernel
theorem dX9_simulate_135 : decode cX9_simulate 135 = .ok (.bipush 10, 2) := by decide +kernel
theorem dX9_simulate_137 : decode cX9_simulate 137 = .ok (.aload_n 0, 1) := by decide +kernel
theorem dX9_simulate_138 : decode cX9_simulate 138 = .ok (.getfield 23, 3) := by decide +kernel
theorem dX9_simulate_141 : decode cX9_simulate 141 = .ok (.getfield 84, 3) := by decide +kernel
theorem dX9_simulate_144 : decode cX9_simulate 144 = .ok (.invokevirtual 150, 3) := by decide +kernel
theorem dX9_simulate_147 : decode cX9_simulate 147 = .ok (.imul, 1) := by decide +kernel
theorem dX9_simulate_148 : decode cX9_simulate 148 = .ok (.iadd, 1) := by decide +kernel
theorem dX9_simulate_149 : decode cX9_simulate 149 = .ok (.aload_n 0, 1) := by decide +kernel
theorem dX9_simulate_150 : decode cX9_simulate 150 = .ok (.getfield 23, 3) := by decide +kernel
theorem dX9_simulate_153 : decode cX9_simulate 153 = .ok (.getfield 114, 3) := by decide +kernel
theorem dX9_simulate_156 : decode cX9_simulate 156 = .ok (.getfield 124, 3) := by decide +kernel
theorem dX9_simulate_159 : decode cX9_simulate 159 = .ok (.iadd, 1) := by decide +kernel
theorem dX9_simulate_160 : decode cX9_simulate 160 = .ok (.ireturn, 1) := by decide +kernel
set_option maxRecDepth 20000 in
theorem ggX9_save_X9_needIndex : GoodIn wsX9_save wsX9_needIndex := goodIn_ca (goodIn_r _ [9, 10, 11] (by decide +kernel) (by decide +kernel)) (goodIn_sub (fun _ h => List.mem_cons_of_mem _ (List.mem_append_right _ h)) (by decide +kernel))
set_option maxRecDepth 20000 in
theorem gX9_save_X9_needIndex : GoodIn wsX9_save (va_wsS RX9 107 yX9_needIndex wsX9_needIndex) := goodIn_app (goodIn_of _ (by decide +kernel)) ggX9_save_X9_needIndex
set_option maxRecDepth 20000 in
theorem ggX9_save_X5_copyFrom : GoodIn wsX9_save wsX5_copyFrom := goodIn_r _ [16, 17, 18, 19, 20, 21, 22, 23, 24, 25, 26, 27, 28, 29, 30, 31, 32, 33, 34, 35, 36, 37, 38, 39, 40, 41, 42, 43, 44, 45, 46, 47, 48, 49, 50, 51, 52, 53, 54, 55, 56, 57, 58, 59, 60, 61, 62, 63, 64, 65, 66, 67, 68, 76, 77, 78, 79, 80, 81, 82, 83, 84, 85, 86, 87, 88, 89, 90, 91, 92, 93, 94, 95, 96, 97, 98, 99, 100, 101] (by decide +kernel) (by decide +kernel)
set_option maxRecDepth 20000 in
theorem gX9_save_X5_copyFrom : GoodIn wsX9_save (wsV RX9 66 RX5 yX5_copyFrom wsX5_copyFrom) := goodIn_app (goodIn_of _ (by decide +kernel)) ggX9_save_X5_copyFrom
theorem dX9_save_0 : decode cX9_save 0 = .ok (.iload_n 1, 1) := by decide +kernel
theorem dX9_save_1 : decode cX9_save 1 = .ok (.iconst 2, 1) := by decide +kernel
theorem dX9_save_2 : decode cX9_save 2 = .ok (.invokestatic 107, 3) := by decide +kernel
theorem dX9_save_5 : decode cX9_save 5 = .ok (.aload_n 0, 1) := by decide +kernel
theorem dX9_save_6 : decode cX9_save 6 = .ok (.getfield 36, 3) := by decide +kernel
theorem dX9_save_9 : decode cX9_save 9 = .ok (.getfield 236, 3) := by decide +kernel
theorem dX9_save_12 : decode cX9_save 12 = .ok (.iload_n 1, 1) := by decide +kernel
theorem dX9_save_13 : decode cX9_save 13 = .ok (.aaload, 1) := by decide +kernel
theorem dX9_save_14 : decode cX9_save 14 = .ok (.aload_n 0, 1) := by decide +kernel
theorem dX9_save_15 : decode cX9_save 15 = .ok (.getfield 19, 3) := by decide +kernel
theorem dX9_save_18 : decode cX9_save 18 = .ok (.invokevirtual 66, 3) := by decide +kernel
theorem dX9_save_21 : decode cX9_save 21 = .ok (.aload_n 0, 1) := by decide +kernel
theorem dX9_save_22 : decode cX9_save 22 = .ok (.getfield 36, 3) := by decide +kernel
theorem dX9_save_25 : decode cX9_save 25 = .ok (.getfield 240, 3) := by decide +kernel
theorem dX9_save_28 : decode cX9_save 28 = .ok (.iload_n 1, 1) := by decide +kernel
theorem dX9_save_29 : decode cX9_save 29 = .ok (.iconst 1, 1) := by decide +kernel
theorem dX9_save_30 : decode cX9_save 30 = .ok (.bastore, 1) := by decide +kernel
theorem dX9_save_31 : decode cX9_save 31 = .ok (.aload_n 0, 1) := by decide +kernel
theorem dX9_save_32 : decode cX9_save 32 = .ok (.getfield 19, 3) := by decide +kernel
theorem dX9_save_35 : decode cX9_save 35 = .ok (.getfield 243, 3) := by decide +kernel
theorem dX9_save_38 : decode cX9_save 38 = .ok (.ireturn, 1) := by decide +kernel
set_option maxRecDepth 20000 in
theorem ggX9_restore_X9_needIndex : GoodIn wsX9_restore wsX9_needIndex := goodIn_ca (goodIn_r _ [12, 13, 14] (by decide +kernel) (by decide +kernel)) (goodIn_sub (fun _ h => List.mem_cons_of_mem _ (List.mem_append_right _ h)) (by decide +kernel))
set_option maxRecDepth 20000 in
theorem gX9_restore_X9_needIndex : GoodIn wsX9_restore (va_wsS RX9 107 yX9_needIndex wsX9_needIndex) := goodIn_app (goodIn_of _ (by decide +kernel)) ggX9_restore_X9_needIndex
set_option maxRecDepth 20000 in
theorem ggX9_restore_X5_copyFrom : GoodIn wsX9_restore wsX5_copyFrom := goodIn_r _ [19, 20, 21, 22, 23, 24, 25, 26, 27, 28, 29, 30, 31, 32, 33, 34, 35, 36, 37, 38, 39, 40, 41, 42, 43, 44, 45, 46, 47, 48, 49, 50, 51, 52, 53, 54, 55, 56, 57, 58, 59, 60, 61, 62, 63, 64, 65, 66, 67, 68, 69, 70, 71, 85, 86, 87, 88, 89, 90, 91, 92, 93, 94, 95, 96, 97, 98, 99, 100, 101, 102, 103, 104, 105, 106, 107, 108, 109, 110] (by decide +kernel) (by decide +kernel)
set_option maxRecDepth 20000 in
theorem gX9_restore_X5_copyFrom : GoodIn wsX9_restore (wsV RX9 66 RX5 yX5_copyFrom wsX5_copyFrom) := goodIn_app (goodIn_of _ (by decide +kernel)) ggX9_restore_X5_copyFrom
set_option maxRecDepth 20000 in
theorem ggX9_restore_X2_forget : GoodIn wsX9_restore wsX2_forget := goodIn_r _ [76, 77, 111, 112] (by decide +kernel) (by decide +kernel)
set_option maxRecDepth 20000 in
theorem gX9_restore_X2_forget : GoodIn wsX9_restore (wsV RX9 70 RX2 yX2_forget wsX2_forget) := goodIn_app (goodIn_of _ (by decide +kernel)) ggX9_restore_X2_forget
theorem dX9_restore_0 : decode cX9_restore 0 = .ok (.iload_n 1, 1) := by decide +kernel
theorem dX9_restore_1 : decode cX9_restore 1 = .ok (.iconst 2, 1) := by decide +kernel
theorem dX9_restore_2 : decode cX9_restore 2 = .ok (.invokestatic 107, 3) := by decide +kernel
theorem dX9_restore_5 : decode cX9_restore 5 = .ok (.aload_n 0, 1) := by decide +kernel
theorem dX9_restore_6 : decode cX9_restore 6 = .ok (.getfield 36, 3) := by decide +kernel
theorem dX9_restore_9 : decode cX9_restore 9 = .ok (.getfield 240, 3) := by decide +kernel
theorem dX9_restore_12 : decode cX9_restore 12 = .ok (.iload_n 1, 1) := by decide +kernel
theorem dX9_restore_13 : decode cX9_restore 13 = .ok (.baload, 1) := by decide +kernel
theorem dX9_restore_14 : decode cX9_restore 14 = .ok (.ifCond .ne 13, 3) := by decide +kernel
theorem dX9_restore_17 : decode cX9_restore 17 = .ok (.new 48, 3) := by decide +kernel
theorem dX9_restore_20 : decode cX9_restore 20 = .ok (.dup, 1) := by decide +kernel
theorem dX9_restore_21 : decode cX9_restore 21 = .ok (.ldc 246, 2) := by decide +kernel
theorem dX9_restore_23 : decode cX9_restore 23 = .ok (.invokespecial 52, 3) := by decide +kernel
theorem dX9_restore_26 : decode cX9_restore 26 = .ok (.athrow, 1) := by decide +kernel
theorem dX9_restore_27 : decode cX9_restore 27 = .ok (.aload_n 0, 1) := by decide +kernel
theorem dX9_restore_28 : decode cX9_restore 28 = .ok (.getfield 19, 3) := by decide +kernel
theorem dX9_restore_31 : decode cX9_restore 31 = .ok (.aload_n 0, 1) := by decide +kernel
theorem dX9_restore_32 : decode cX9_restore 32 = .ok (.getfield 36, 3) := by decide +kernel
theorem dX9_restore_35 : decode cX9_restore 35 = .ok (.getfield 236, 3) := by decide +kernel
theorem dX9_restore_38 : decode cX9_restore 38 = .ok (.iload_n 1, 1) := by decide +kernel
theorem dX9_restore_39 : decode cX9_restore 39 = .ok (.aaload, 1) := by decide +kernel
theorem dX9_restore_40 : decode cX9_restore 40 = .ok (.invokevirtual 66, 3) := by decide +kernel
theorem dX9_restore_43 : decode cX9_restore 43 = .ok (.aload_n 0, 1) := by decide +kernel
theorem dX9_restore_44 : decode cX9_restore 44 = .ok (.getfield 29, 3) := by decide +kernel
theorem dX9_restore_47 : decode cX9_restore 47 = .ok (.invokevirtual 70, 3) := by decide +kernel
theorem dX9_restore_50 : decode cX9_restore 50 = .ok (.aload_n 0, 1) := by decide +kernel
theorem dX9_restore_51 : decode cX9_restore 51 = .ok (.getfield 19, 3) := by decide +kernel
theorem dX9_restore_54 : decode cX9_restore 54 = .ok (.getfield 243, 3) := by decide +kernel
theorem dX9_restore_57 : decode cX9_restore 57 = .ok (.ireturn, 1) := by decide +kernel
theorem dX9_needRange_0 : decode cX9_needRange 0 = .ok (.iload_n 0, 1) := by decide +kernel
theorem dX9_needRange_1 : decode cX9_needRange 1 = .ok (.iload_n 1, 1) := by decide +kernel
theorem dX9_needRange_2 : decode cX9_needRange 2 = .ok (.if_icmp .lt 8, 3) := by decide +kernel
theorem dX9_needRange_5 : decode cX9_needRange 5 = .ok (.iload_n 0, 1) := by decide +kernel
theorem dX9_needRange_6 : decode cX9_needRange 6 = .ok (.iload_n 2, 1) := by decide +kernel
theorem dX9_needRange_7 : decode cX9_needRange 7 = .ok (.if_icmp .le 13, 3) := by decide +kernel
theorem dX9_needRange_10 : decode cX9_needRange 10 = .ok (.new 216, 3) := by decide +kernel
theorem dX9_needRange_13 : decode cX9_needRange 13 = .ok (.dup, 1) := by decide +kernel
theorem dX9_needRange_14 : decode cX9_needRange 14 = .ok (.ldc 248, 2) := by decide +kernel
theorem dX9_needRange_16 : decode cX9_needRange 16 = .ok (.invokespecial 220, 3) := by decide +kernel
theorem dX9_needRange_19 : decode cX9_needRange 19 = .ok (.athrow, 1) := by decide +kernel
theorem dX9_needRange_20 : decode cX9_needRange 20 = .ok (.return_, 1) := by decide +kernel
theorem dX9_needIndex_0 : decode cX9_needIndex 0 = .ok (.iload_n 0, 1) := by decide +kernel
theorem dX9_needIndex_1 : decode cX9_needIndex 1 = .ok (.ifCond .lt 8, 3) := by decide +kernel
theorem dX9_needIndex_4 : decode cX9_needIndex 4 = .ok (.iload_n 0, 1) := by decide +kernel
theorem dX9_needIndex_5 : decode cX9_needIndex 5 = .ok (.iload_n 1, 1) := by decide +kernel
theorem dX9_needIndex_6 : decode cX9_needIndex 6 = .ok (.if_icmp .lt 13, 3) := by decide +kernel
theorem dX9_needIndex_9 : decode cX9_needIndex 9 = .ok (.new 250, 3) := by decide +kernel
theorem dX9_needIndex_12 : decode cX9_needIndex 12 = .ok (.dup, 1) := by decide +kernel
theorem dX9_needIndex_13 : decode cX9_needIndex 13 = .ok (.ldc 252, 2) := by decide +kernel
theorem dX9_needIndex_15 : decode cX9_needIndex 15 = .ok (.invokespecial 254, 3) := by decide +kernel
theorem dX9_needIndex_18 : decode cX9_needIndex 18 = .ok (.athrow, 1) := by decide +kernel
theorem dX9_needIndex_19 : decode cX9_needIndex 19 = .ok (.return_, 1) := by decide +kernel
set_option maxRecDepth 20000 in
theorem ggX9_needMain_X5_isWritable : GoodIn wsX9_needMain wsX5_isWritable := goodIn_r _ [8, 9, 10, 11, 12, 13, 14, 15, 16, 22, 23, 24, 25, 26, 27, 28, 29, 30, 31] (by decide +kernel) (by decide +kernel)
set_option maxRecDepth 20000 in
theorem gX9_needMain_X5_isWritable : GoodIn wsX9_needMain (wsV RX9 255 RX5 yX5_isWritable wsX5_isWritable) := goodIn_app (goodIn_of _ (by decide +kernel)) ggX9_needMain_X5_isWritable
theorem dX9_needMain_0 : decode cX9_needMain 0 = .ok (.aload_n 0, 1) := by decide +kernel
theorem dX9_needMain_1 : decode cX9_needMain 1 = .ok (.getfield 19, 3) := by decide +kernel
theorem dX9_needMain_4 : decode cX9_needMain 4 = .ok (.invokevirtual 255, 3) := by decide +kernel
theorem dX9_needMain_7 : decode cX9_needMain 7 = .ok (.ifCond .ne 14, 3) := by decide +kernel
theorem dX9_needMain_10 : decode cX9_needMain 10 = .ok (.new 48, 3) := by decide +kernel
theorem dX9_needMain_13 : decode cX9_needMain 13 = .ok (.dup, 1) := by decide +kernel
theorem dX9_needMain_14 : decode cX9_needMain 14 = .ok (.ldc_w 259, 3) := by decide +kernel
theorem dX9_needMain_17 : decode cX9_needMain 17 = .ok (.invokespecial 52, 3) := by decide +kernel
theorem dX9_needMain_20 : decode cX9_needMain 20 = .ok (.athrow, 1) := by decide +kernel
theorem dX9_needMain_21 : decode cX9_needMain 21 = .ok (.return_, 1) := by decide +kernel
set_option maxRecDepth 20000 in
theorem ggX10_init_X10_begin : GoodIn wsX10_init wsX10_begin := goodIn_r _ [21, 22] (by decide +kernel) (by decide +kernel)
set_option maxRecDepth 20000 in
theorem gX10_init_X10_begin : GoodIn wsX10_init (va_wsS RX10 45 yX10_begin wsX10_begin) := goodIn_app (goodIn_of _ (by decide +kernel)) ggX10_init_X10_begin
theorem dX10_init_0 : decode cX10_init 0 = .ok (.aload_n 0, 1) := by decide +kernel
theorem dX10_init_1 : decode cX10_init 1 = .ok (.invokespecial 1, 3) := by decide +kernel
theorem dX10_init_4 : decode cX10_init 4 = .ok (.aload_n 0, 1) := by decide +kernel
theorem dX10_init_5 : decode cX10_init 5 = .ok (.bipush 60, 2) := by decide +kernel
theorem dX10_init_7 : decode cX10_init 7 = .ok (.newarray .int, 2) := by decide +kernel
theorem dX10_init_9 : decode cX10_init 9 = .ok (.putfield 7, 3) := by decide +kernel
theorem dX10_init_12 : decode cX10_init 12 = .ok (.aload_n 0, 1) := by decide +kernel
theorem dX10_init_13 : decode cX10_init 13 = .ok (.bipush 57, 2) := by decide +kernel
theorem dX10_init_15 : decode cX10_init 15 = .ok (.newarray .int, 2) := by decide +kernel
theorem dX10_init_17 : decode cX10_init 17 = .ok (.putfield 13, 3) := by decide +kernel
theorem dX10_init_20 : decode cX10_init 20 = .ok (.aload_n 0, 1) := by decide +kernel
theorem dX10_init_21 : decode cX10_init 21 = .ok (.bipush 57, 2) := by decide +kernel
theorem dX10_init_23 : decode cX10_init 23 = .ok (.newarray .int, 2) := by decide +kernel
theorem dX10_init_25 : decode cX10_init 25 = .ok (.putfield 16, 3) := by decide +kernel
theorem dX10_init_28 : decode cX10_init 28 = .ok (.aload_n 0, 1) := by decide +kernel
theorem dX10_init_29 : decode cX10_init 29 = .ok (.bipush 57, 2) := by decide +kernel
theorem dX10_init_31 : decode cX10_init 31 = .ok (.newarray .int, 2) := by decide +kernel
theorem dX10_init_33 : decode cX10_init 33 = .ok (.putfield 19, 3) := by decide +kernel
theorem dX10_init_36 : decode cX10_init 36 = .ok (.aload_n 0, 1) := by decide +kernel
theorem dX10_init_37 : decode cX10_init 37 = .ok (.sipush 798, 3) := by decide +kernel

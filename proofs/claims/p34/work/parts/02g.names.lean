theorem dX8_readAlarm_42 : decode cX8_readAlarm 42 = .ok (.invokevirtual 55, 3) := by decide +kernel
theorem dX8_readAlarm_45 : decode cX8_readAlarm 45 = .ok (.istore_n 3, 1) := by decide +kernel
theorem dX8_readAlarm_46 : decode cX8_readAlarm 46 = .ok (.iload_n 3, 1) := by decide +kernel
theorem dX8_readAlarm_47 : decode cX8_readAlarm 47 = .ok (.ldc 41, 2) := by decide +kernel
theorem dX8_readAlarm_49 : decode cX8_readAlarm 49 = .ok (.if_icmp .ne 5, 3) := by decide +kernel
theorem dX8_readAlarm_52 : decode cX8_readAlarm 52 = .ok (.iconst 0, 1) := by decide +kernel
theorem dX8_readAlarm_53 : decode cX8_readAlarm 53 = .ok (.ireturn, 1) := by decide +kernel
theorem dX8_readAlarm_54 : decode cX8_readAlarm 54 = .ok (.aload_n 1, 1) := by decide +kernel
theorem dX8_readAlarm_55 : decode cX8_readAlarm 55 = .ok (.getfield 86, 3) := by decide +kernel
theorem dX8_readAlarm_58 : decode cX8_readAlarm 58 = .ok (.aload_n 0, 1) := by decide +kernel
theorem dX8_readAlarm_59 : decode cX8_readAlarm 59 = .ok (.getfield 42, 3) := by decide +kernel
theorem dX8_readAlarm_62 : decode cX8_readAlarm 62 = .ok (.aaload, 1) := by decide +kernel
theorem dX8_readAlarm_63 : decode cX8_readAlarm 63 = .ok (.iload_n 2, 1) := by decide +kernel
theorem dX8_readAlarm_64 : decode cX8_readAlarm 64 = .ok (.bipush 60, 2) := by decide +kernel
theorem dX8_readAlarm_66 : decode cX8_readAlarm 66 = .ok (.imul, 1) := by decide +kernel
theorem dX8_readAlarm_67 : decode cX8_readAlarm 67 = .ok (.iload_n 3, 1) := by decide +kernel
theorem dX8_readAlarm_68 : decode cX8_readAlarm 68 = .ok (.iadd, 1) := by decide +kernel
theorem dX8_readAlarm_69 : decode cX8_readAlarm 69 = .ok (.invokevirtual 90, 3) := by decide +kernel
theorem dX8_readAlarm_72 : decode cX8_readAlarm 72 = .ok (.aload_n 0, 1) := by decide +kernel
theorem dX8_readAlarm_73 : decode cX8_readAlarm 73 = .ok (.dup, 1) := by decide +kernel
theorem dX8_readAlarm_74 : decode cX8_readAlarm 74 = .ok (.getfield 42, 3) := by decide +kernel
theorem dX8_readAlarm_77 : decode cX8_readAlarm 77 = .ok (.iconst 1, 1) := by decide +kernel
theorem dX8_readAlarm_78 : decode cX8_readAlarm 78 = .ok (.iadd, 1) := by decide +kernel
theorem dX8_readAlarm_79 : decode cX8_readAlarm 79 = .ok (.putfield 42, 3) := by decide +kernel
theorem dX8_readAlarm_82 : decode cX8_readAlarm 82 = .ok (.iconst 1, 1) := by decide +kernel
theorem dX8_readAlarm_83 : decode cX8_readAlarm 83 = .ok (.ireturn, 1) := by decide +kernel
set_option maxRecDepth 20000 in
theorem ggX8_readPin_X8_digitHere : GoodIn wsX8_readPin wsX8_digitHere := goodIn_r _ [9, 10, 11, 12, 13, 8, 14, 2, 15, 16, 17, 18, 19, 20, 21, 22, 23] (by decide +kernel) (by decide +kernel)
set_option maxRecDepth 20000 in
theorem gX8_readPin_X8_digitHere : GoodIn wsX8_readPin (wsV RX8 96 RX8 yX8_digitHere wsX8_digitHere) := goodIn_app (goodIn_of _ (by decide +kernel)) ggX8_readPin_X8_digitHere
theorem dX8_readPin_0 : decode cX8_readPin 0 = .ok (.aload_n 0, 1) := by decide +kernel
theorem dX8_readPin_1 : decode cX8_readPin 1 = .ok (.getfield 45, 3) := by decide +kernel
theorem dX8_readPin_4 : decode cX8_readPin 4 = .ok (.iconst 3, 1) := by decide +kernel
theorem dX8_readPin_5 : decode cX8_readPin 5 = .ok (.if_icmp .lt 5, 3) := by decide +kernel
theorem dX8_readPin_8 : decode cX8_readPin 8 = .ok (.iconst 0, 1) := by decide +kernel
theorem dX8_readPin_9 : decode cX8_readPin 9 = .ok (.ireturn, 1) := by decide +kernel
theorem dX8_readPin_10 : decode cX8_readPin 10 = .ok (.aload_n 0, 1) := by decide +kernel
theorem dX8_readPin_11 : decode cX8_readPin 11 = .ok (.dup, 1) := by decide +kernel
theorem dX8_readPin_12 : decode cX8_readPin 12 = .ok (.getfield 35, 3) := by decide +kernel
theorem dX8_readPin_15 : decode cX8_readPin 15 = .ok (.iconst 1, 1) := by decide +kernel
theorem dX8_readPin_16 : decode cX8_readPin 16 = .ok (.iadd, 1) := by decide +kernel
theorem dX8_readPin_17 : decode cX8_readPin 17 = .ok (.putfield 35, 3) := by decide +kernel
theorem dX8_readPin_20 : decode cX8_readPin 20 = .ok (.aload_n 0, 1) := by decide +kernel
theorem dX8_readPin_21 : decode cX8_readPin 21 = .ok (.invokevirtual 96, 3) := by decide +kernel
theorem dX8_readPin_24 : decode cX8_readPin 24 = .ok (.istore_n 2, 1) := by decide +kernel
theorem dX8_readPin_25 : decode cX8_readPin 25 = .ok (.iload_n 2, 1) := by decide +kernel
theorem dX8_readPin_26 : decode cX8_readPin 26 = .ok (.ifCond .lt 20, 3) := by decide +kernel
theorem dX8_readPin_29 : decode cX8_readPin 29 = .ok (.iload_n 2, 1) := by decide +kernel
theorem dX8_readPin_30 : decode cX8_readPin 30 = .ok (.iconst 3, 1) := by decide +kernel
theorem dX8_readPin_31 : decode cX8_readPin 31 = .ok (.if_icmp .ge 15, 3) := by decide +kernel
theorem dX8_readPin_34 : decode cX8_readPin 34 = .ok (.aload_n 1, 1) := by decide +kernel
theorem dX8_readPin_35 : decode cX8_readPin 35 = .ok (.getfield 99, 3) := by decide +kernel
theorem dX8_readPin_38 : decode cX8_readPin 38 = .ok (.getfield 103, 3) := by decide +kernel
theorem dX8_readPin_41 : decode cX8_readPin 41 = .ok (.iload_n 2, 1) := by decide +kernel
theorem dX8_readPin_42 : decode cX8_readPin 42 = .ok (.baload, 1) := by decide +kernel
theorem dX8_readPin_43 : decode cX8_readPin 43 = .ok (.ifCond .eq 5, 3) := by decide +kernel
theorem dX8_readPin_46 : decode cX8_readPin 46 = .ok (.iconst 0, 1) := by decide +kernel
theorem dX8_readPin_47 : decode cX8_readPin 47 = .ok (.ireturn, 1) := by decide +kernel
theorem dX8_readPin_48 : decode cX8_readPin 48 = .ok (.aload_n 0, 1) := by decide +kernel
theorem dX8_readPin_49 : decode cX8_readPin 49 = .ok (.dup, 1) := by decide +kernel
theorem dX8_readPin_50 : decode cX8_readPin 50 = .ok (.getfield 35, 3) := by decide +kernel
theorem dX8_readPin_53 : decode cX8_readPin 53 = .ok (.iconst 1, 1) := by decide +kernel
theorem dX8_readPin_54 : decode cX8_readPin 54 = .ok (.iadd, 1) := by decide +kernel
theorem dX8_readPin_55 : decode cX8_readPin 55 = .ok (.putfield 35, 3) := by decide +kernel
theorem dX8_readPin_58 : decode cX8_readPin 58 = .ok (.aload_n 1, 1) := by decide +kernel
theorem dX8_readPin_59 : decode cX8_readPin 59 = .ok (.getfield 99, 3) := by decide +kernel
theorem dX8_readPin_62 : decode cX8_readPin 62 = .ok (.getfield 103, 3) := by decide +kernel
theorem dX8_readPin_65 : decode cX8_readPin 65 = .ok (.iload_n 2, 1) := by decide +kernel
theorem dX8_readPin_66 : decode cX8_readPin 66 = .ok (.iconst 1, 1) := by decide +kernel
theorem dX8_readPin_67 : decode cX8_readPin 67 = .ok (.bastore, 1) := by decide +kernel
theorem dX8_readPin_68 : decode cX8_readPin 68 = .ok (.aload_n 0, 1) := by decide +kernel
theorem dX8_readPin_69 : decode cX8_readPin 69 = .ok (.dup, 1) := by decide +kernel
theorem dX8_readPin_70 : decode cX8_readPin 70 = .ok (.getfield 45, 3) := by decide +kernel
theorem dX8_readPin_73 : decode cX8_readPin 73 = .ok (.iconst 1, 1) := by decide +kernel
theorem dX8_readPin_74 : decode cX8_readPin 74 = .ok (.iadd, 1) := by decide +kernel
theorem dX8_readPin_75 : decode cX8_readPin 75 = .ok (.putfield 45, 3) := by decide +kernel
theorem dX8_readPin_78 : decode cX8_readPin 78 = .ok (.iconst 1, 1) := by decide +kernel
theorem dX8_readPin_79 : decode cX8_readPin 79 = .ok (.ireturn, 1) := by decide +kernel
set_option maxRecDepth 20000 in
theorem ggX8_readRegister_X8_digitHere : GoodIn wsX8_readRegister wsX8_digitHere := goodIn_r _ [10, 4, 11, 12, 13, 9, 14, 2, 15, 16, 21, 22, 23, 24, 25, 26, 27] (by decide +kernel) (by decide +kernel)
set_option maxRecDepth 20000 in
theorem gX8_readRegister_X8_digitHere : GoodIn wsX8_readRegister (wsV RX8 96 RX8 yX8_digitHere wsX8_digitHere) := goodIn_app (goodIn_of _ (by decide +kernel)) ggX8_readRegister_X8_digitHere
set_option maxRecDepth 20000 in
theorem ggX8_readRegister_X8_readNumber : GoodIn wsX8_readRegister wsX8_readNumber := goodIn_r _ [20, 4, 2, 6, 7, 8, 9, 10, 11, 12, 13, 14, 15, 16, 21, 22, 23, 24, 25, 26, 27] (by decide +kernel) (by decide +kernel)
set_option maxRecDepth 20000 in
theorem gX8_readRegister_X8_readNumber : GoodIn wsX8_readRegister (wsV RX8 55 RX8 yX8_readNumber wsX8_readNumber) := goodIn_app (goodIn_of _ (by decide +kernel)) ggX8_readRegister_X8_readNumber
theorem dX8_readRegister_0 : decode cX8_readRegister 0 = .ok (.aload_n 0, 1) := by decide +kernel
theorem dX8_readRegister_1 : decode cX8_readRegister 1 = .ok (.getfield 48, 3) := by decide +kernel
theorem dX8_readRegister_4 : decode cX8_readRegister 4 = .ok (.bipush 8, 2) := by decide +kernel
theorem dX8_readRegister_6 : decode cX8_readRegister 6 = .ok (.if_icmp .lt 5, 3) := by decide +kernel
theorem dX8_readRegister_9 : decode cX8_readRegister 9 = .ok (.iconst 0, 1) := by decide +kernel
theorem dX8_readRegister_10 : decode cX8_readRegister 10 = .ok (.ireturn, 1) := by decide +kernel
theorem dX8_readRegister_11 : decode cX8_readRegister 11 = .ok (.aload_n 0, 1) := by decide +kernel
theorem dX8_readRegister_12 : decode cX8_readRegister 12 = .ok (.dup, 1) := by decide +kernel
theorem dX8_readRegister_13 : decode cX8_readRegister 13 = .ok (.getfield 35, 3) := by decide +kernel
theorem dX8_readRegister_16 : decode cX8_readRegister 16 = .ok (.iconst 1, 1) := by decide +kernel
theorem dX8_readRegister_17 : decode cX8_readRegister 17 = .ok (.iadd, 1) := by decide +kernel
theorem dX8_readRegister_18 : decode cX8_readRegister 18 = .ok (.putfield 35, 3) := by decide +kernel
theorem dX8_readRegister_21 : decode cX8_readRegister 21 = .ok (.aload_n 0, 1) := by decide +kernel
theorem dX8_readRegister_22 : decode cX8_readRegister 22 = .ok (.invokevirtual 96, 3) := by decide +kernel
theorem dX8_readRegister_25 : decode cX8_readRegister 25 = .ok (.istore_n 2, 1) := by decide +kernel
theorem dX8_readRegister_26 : decode cX8_readRegister 26 = .ok (.iload_n 2, 1) := by decide +kernel
theorem dX8_readRegister_27 : decode cX8_readRegister 27 = .ok (.ifCond .lt 18, 3) := by decide +kernel
theorem dX8_readRegister_30 : decode cX8_readRegister 30 = .ok (.iload_n 2, 1) := by decide +kernel
theorem dX8_readRegister_31 : decode cX8_readRegister 31 = .ok (.bipush 8, 2) := by decide +kernel
theorem dX8_readRegister_33 : decode cX8_readRegister 33 = .ok (.if_icmp .ge 12, 3) := by decide +kernel
theorem dX8_readRegister_36 : decode cX8_readRegister 36 = .ok (.aload_n 0, 1) := by decide +kernel
theorem dX8_readRegister_37 : decode cX8_readRegister 37 = .ok (.getfield 15, 3) := by decide +kernel
theorem dX8_readRegister_40 : decode cX8_readRegister 40 = .ok (.iload_n 2, 1) := by decide +kernel
theorem dX8_readRegister_41 : decode cX8_readRegister 41 = .ok (.baload, 1) := by decide +kernel
theorem dX8_readRegister_42 : decode cX8_readRegister 42 = .ok (.ifCond .eq 5, 3) := by decide +kernel
theorem dX8_readRegister_45 : decode cX8_readRegister 45 = .ok (.iconst 0, 1) := by decide +kernel
theorem dX8_readRegister_46 : decode cX8_readRegister 46 = .ok (.ireturn, 1) := by decide +kernel
theorem dX8_readRegister_47 : decode cX8_readRegister 47 = .ok (.aload_n 0, 1) := by decide +kernel
theorem dX8_readRegister_48 : decode cX8_readRegister 48 = .ok (.dup, 1) := by decide +kernel
theorem dX8_readRegister_49 : decode cX8_readRegister 49 = .ok (.getfield 35, 3) := by decide +kernel
theorem dX8_readRegister_52 : decode cX8_readRegister 52 = .ok (.iconst 1, 1) := by decide +kernel
theorem dX8_readRegister_53 : decode cX8_readRegister 53 = .ok (.iadd, 1) := by decide +kernel
theorem dX8_readRegister_54 : decode cX8_readRegister 54 = .ok (.putfield 35, 3) := by decide +kernel
theorem dX8_readRegister_57 : decode cX8_readRegister 57 = .ok (.aload_n 0, 1) := by decide +kernel
theorem dX8_readRegister_58 : decode cX8_readRegister 58 = .ok (.bipush 100, 2) := by decide +kernel
theorem dX8_readRegister_60 : decode cX8_readRegister 60 = .ok (.sipush 255, 3) := by decide +kernel
theorem dX8_readRegister_63 : decode cX8_readRegister 63 = .ok (.invokevirtual 55, 3) := by decide +kernel
theorem dX8_readRegister_66 : decode cX8_readRegister 66 = .ok (.istore_n 3, 1) := by decide +kernel
theorem dX8_readRegister_67 : decode cX8_readRegister 67 = .ok (.iload_n 3, 1) := by decide +kernel
theorem dX8_readRegister_68 : decode cX8_readRegister 68 = .ok (.ldc 41, 2) := by decide +kernel
theorem dX8_readRegister_70 : decode cX8_readRegister 70 = .ok (.if_icmp .ne 5, 3) := by decide +kernel
theorem dX8_readRegister_73 : decode cX8_readRegister 73 = .ok (.iconst 0, 1) := by decide +kernel
theorem dX8_readRegister_74 : decode cX8_readRegister 74 = .ok (.ireturn, 1) := by decide +kernel
theorem dX8_readRegister_75 : decode cX8_readRegister 75 = .ok (.aload_n 1, 1) := by decide +kernel
theorem dX8_readRegister_76 : decode cX8_readRegister 76 = .ok (.getfield 108, 3) := by decide +kernel
theorem dX8_readRegister_79 : decode cX8_readRegister 79 = .ok (.iload_n 2, 1) := by decide +kernel
theorem dX8_readRegister_80 : decode cX8_readRegister 80 = .ok (.iload_n 3, 1) := by decide +kernel
theorem dX8_readRegister_81 : decode cX8_readRegister 81 = .ok (.iastore, 1) := by decide +kernel
theorem dX8_readRegister_82 : decode cX8_readRegister 82 = .ok (.aload_n 0, 1) := by decide +kernel
theorem dX8_readRegister_83 : decode cX8_readRegister 83 = .ok (.getfield 15, 3) := by decide +kernel
theorem dX8_readRegister_86 : decode cX8_readRegister 86 = .ok (.iload_n 2, 1) := by decide +kernel
theorem dX8_readRegister_87 : decode cX8_readRegister 87 = .ok (.iconst 1, 1) := by decide +kernel
theorem dX8_readRegister_88 : decode cX8_readRegister 88 = .ok (.bastore, 1) := by decide +kernel
theorem dX8_readRegister_89 : decode cX8_readRegister 89 = .ok (.aload_n 0, 1) := by decide +kernel
theorem dX8_readRegister_90 : decode cX8_readRegister 90 = .ok (.dup, 1) := by decide +kernel
theorem dX8_readRegister_91 : decode cX8_readRegister 91 = .ok (.getfield 48, 3) := by decide +kernel
theorem dX8_readRegister_94 : decode cX8_readRegister 94 = .ok (.iconst 1, 1) := by decide +kernel
theorem dX8_readRegister_95 : decode cX8_readRegister 95 = .ok (.iadd, 1) := by decide +kernel
theorem dX8_readRegister_96 : decode cX8_readRegister 96 = .ok (.putfield 48, 3) := by decide +kernel
theorem dX8_readRegister_99 : decode cX8_readRegister 99 = .ok (.iconst 1, 1) := by decide +kernel
theorem dX8_readRegister_100 : decode cX8_readRegister 100 = .ok (.ireturn, 1) := by decide +kernel
set_option maxRecDepth 20000 in
theorem ggX8_readNumber_X8_digitHere : GoodIn wsX8_readNumber wsX8_digitHere := goodIn_r _ [7, 1, 8, 9, 10, 6, 11, 2, 12, 13, 14, 15, 16, 17, 18, 19, 20] (by decide +kernel) (by decide +kernel)
set_option maxRecDepth 20000 in
theorem gX8_readNumber_X8_digitHere : GoodIn wsX8_readNumber (wsV RX8 96 RX8 yX8_digitHere wsX8_digitHere) := goodIn_app (goodIn_of _ (by decide +kernel)) ggX8_readNumber_X8_digitHere
theorem dX8_readNumber_0 : decode cX8_readNumber 0 = .ok (.iconst 0, 1) := by decide +kernel
theorem dX8_readNumber_1 : decode cX8_readNumber 1 = .ok (.istore_n 3, 1) := by decide +kernel
theorem dX8_readNumber_2 : decode cX8_readNumber 2 = .ok (.iload_n 1, 1) := by decide +kernel
theorem dX8_readNumber_3 : decode cX8_readNumber 3 = .ok (.istore 4, 2) := by decide +kernel
theorem dX8_readNumber_5 : decode cX8_readNumber 5 = .ok (.iload 4, 2) := by decide +kernel
theorem dX8_readNumber_7 : decode cX8_readNumber 7 = .ok (.ifCond .le 58, 3) := by decide +kernel
theorem dX8_readNumber_10 : decode cX8_readNumber 10 = .ok (.aload_n 0, 1) := by decide +kernel
theorem dX8_readNumber_11 : decode cX8_readNumber 11 = .ok (.invokevirtual 96, 3) := by decide +kernel
theorem dX8_readNumber_14 : decode cX8_readNumber 14 = .ok (.istore 5, 2) := by decide +kernel
theorem dX8_readNumber_16 : decode cX8_readNumber 16 = .ok (.iload 5, 2) := by decide +kernel
theorem dX8_readNumber_18 : decode cX8_readNumber 18 = .ok (.ldc 41, 2) := by decide +kernel
theorem dX8_readNumber_20 : decode cX8_readNumber 20 = .ok (.if_icmp .eq 14, 3) := by decide +kernel
theorem dX8_readNumber_23 : decode cX8_readNumber 23 = .ok (.iload_n 3, 1) := by decide +kernel
theorem dX8_readNumber_24 : decode cX8_readNumber 24 = .ok (.iload 5, 2) := by decide +kernel
theorem dX8_readNumber_26 : decode cX8_readNumber 26 = .ok (.iload 4, 2) := by decide +kernel
theorem dX8_readNumber_28 : decode cX8_readNumber 28 = .ok (.imul, 1) := by decide +kernel
theorem dX8_readNumber_29 : decode cX8_readNumber 29 = .ok (.iadd, 1) := by decide +kernel
theorem dX8_readNumber_30 : decode cX8_readNumber 30 = .ok (.iload_n 2, 1) := by decide +kernel
theorem dX8_readNumber_31 : decode cX8_readNumber 31 = .ok (.if_icmp .le 6, 3) := by decide +kernel
theorem dX8_readNumber_34 : decode cX8_readNumber 34 = .ok (.ldc 41, 2) := by decide +kernel
theorem dX8_readNumber_36 : decode cX8_readNumber 36 = .ok (.ireturn, 1) := by decide +kernel
theorem dX8_readNumber_37 : decode cX8_readNumber 37 = .ok (.iload_n 3, 1) := by decide +kernel
theorem dX8_readNumber_38 : decode cX8_readNumber 38 = .ok (.iload 5, 2) := by decide +kernel
theorem dX8_readNumber_40 : decode cX8_readNumber 40 = .ok (.iload 4, 2) := by decide +kernel
theorem dX8_readNumber_42 : decode cX8_readNumber 42 = .ok (.imul, 1) := by decide +kernel
theorem dX8_readNumber_43 : decode cX8_readNumber 43 = .ok (.iadd, 1) := by decide +kernel
theorem dX8_readNumber_44 : decode cX8_readNumber 44 = .ok (.istore_n 3, 1) := by decide +kernel
theorem dX8_readNumber_45 : decode cX8_readNumber 45 = .ok (.aload_n 0, 1) := by decide +kernel
theorem dX8_readNumber_46 : decode cX8_readNumber 46 = .ok (.dup, 1) := by decide +kernel
theorem dX8_readNumber_47 : decode cX8_readNumber 47 = .ok (.getfield 35, 3) := by decide +kernel
theorem dX8_readNumber_50 : decode cX8_readNumber 50 = .ok (.iconst 1, 1) := by decide +kernel
theorem dX8_readNumber_51 : decode cX8_readNumber 51 = .ok (.iadd, 1) := by decide +kernel
theorem dX8_readNumber_52 : decode cX8_readNumber 52 = .ok (.putfield 35, 3) := by decide +kernel
theorem dX8_readNumber_55 : decode cX8_readNumber 55 = .ok (.iload 4, 2) := by decide +kernel
theorem dX8_readNumber_57 : decode cX8_readNumber 57 = .ok (.bipush 10, 2) := by decide +kernel
theorem dX8_readNumber_59 : decode cX8_readNumber 59 = .ok (.idiv, 1) := by decide +kernel
theorem dX8_readNumber_60 : decode cX8_readNumber 60 = .ok (.istore 4, 2) := by decide +kernel
theorem dX8_readNumber_62 : decode cX8_readNumber 62 = .ok (.goto (-57), 3) := by decide +kernel
theorem dX8_readNumber_65 : decode cX8_readNumber 65 = .ok (.iload_n 3, 1) := by decide +kernel
theorem dX8_readNumber_66 : decode cX8_readNumber 66 = .ok (.ireturn, 1) := by decide +kernel
theorem dX8_here_0 : decode cX8_here 0 = .ok (.aload_n 0, 1) := by decide +kernel
theorem dX8_here_1 : decode cX8_here 1 = .ok (.getfield 35, 3) := by decide +kernel
theorem dX8_here_4 : decode cX8_here 4 = .ok (.aload_n 0, 1) := by decide +kernel
theorem dX8_here_5 : decode cX8_here 5 = .ok (.getfield 19, 3) := by decide +kernel
theorem dX8_here_8 : decode cX8_here 8 = .ok (.if_icmp .ge 15, 3) := by decide +kernel
theorem dX8_here_11 : decode cX8_here 11 = .ok (.aload_n 0, 1) := by decide +kernel
theorem dX8_here_12 : decode cX8_here 12 = .ok (.getfield 9, 3) := by decide +kernel
theorem dX8_here_15 : decode cX8_here 15 = .ok (.aload_n 0, 1) := by decide +kernel
theorem dX8_here_16 : decode cX8_here 16 = .ok (.getfield 35, 3) := by decide +kernel
theorem dX8_here_19 : decode cX8_here 19 = .ok (.iaload, 1) := by decide +kernel
theorem dX8_here_20 : decode cX8_here 20 = .ok (.goto 5, 3) := by decide +kernel
theorem dX8_here_23 : decode cX8_here 23 = .ok (.ldc 41, 2) := by decide +kernel
theorem dX8_here_25 : decode cX8_here 25 = .ok (.ireturn, 1) := by decide +kernel
set_option maxRecDepth 20000 in
theorem ggX8_digitHere_X8_here : GoodIn wsX8_digitHere wsX8_here := goodIn_r _ [6, 7, 8, 9, 1, 10, 11, 12, 13, 14, 15, 16] (by decide +kernel) (by decide +kernel)
set_option maxRecDepth 20000 in
theorem gX8_digitHere_X8_here : GoodIn wsX8_digitHere (wsV RX8 51 RX8 yX8_here wsX8_here) := goodIn_app (goodIn_of _ (by decide +kernel)) ggX8_digitHere_X8_here
theorem dX8_digitHere_0 : decode cX8_digitHere 0 = .ok (.aload_n 0, 1) := by decide +kernel
theorem dX8_digitHere_1 : decode cX8_digitHere 1 = .ok (.invokevirtual 51, 3) := by decide +kernel
theorem dX8_digitHere_4 : decode cX8_digitHere 4 = .ok (.istore_n 1, 1) := by decide +kernel
theorem dX8_digitHere_5 : decode cX8_digitHere 5 = .ok (.iload_n 1, 1) := by decide +kernel
theorem dX8_digitHere_6 : decode cX8_digitHere 6 = .ok (.bipush 48, 2) := by decide +kernel
theorem dX8_digitHere_8 : decode cX8_digitHere 8 = .ok (.if_icmp .lt 16, 3) := by decide +kernel
theorem dX8_digitHere_11 : decode cX8_digitHere 11 = .ok (.iload_n 1, 1) := by decide +kernel
theorem dX8_digitHere_12 : decode cX8_digitHere 12 = .ok (.bipush 57, 2) := by decide +kernel
theorem dX8_digitHere_14 : decode cX8_digitHere 14 = .ok (.if_icmp .gt 10, 3) := by decide +kernel
theorem dX8_digitHere_17 : decode cX8_digitHere 17 = .ok (.iload_n 1, 1) := by decide +kernel
theorem dX8_digitHere_18 : decode cX8_digitHere 18 = .ok (.bipush 48, 2) := by decide +kernel
theorem dX8_digitHere_20 : decode cX8_digitHere 20 = .ok (.isub, 1) := by decide +kernel
theorem dX8_digitHere_21 : decode cX8_digitHere 21 = .ok (.goto 5, 3) := by decide +kernel
theorem dX8_digitHere_24 : decode cX8_digitHere 24 = .ok (.ldc 41, 2) := by decide +kernel
theorem dX8_digitHere_26 : decode cX8_digitHere 26 = .ok (.ireturn, 1) := by decide +kernel
set_option maxRecDepth 20000 in
theorem ggX9_init_X8_init : GoodIn wsX9_init wsX8_init := goodIn_r _ [22, 23, 2, 3, 24, 25, 26, 27, 130, 131, 132, 133, 134, 135, 136] (by decide +kernel) (by decide +kernel)
set_option maxRecDepth 20000 in
theorem gX9_init_X8_init_n9 : GoodIn wsX9_init (wsX8_init) := ggX9_init_X8_init
set_option maxRecDepth 20000 in
theorem ggX9_init_X5_init : GoodIn wsX9_init wsX5_init := goodIn_r _ [30, 31, 2, 3, 32, 33, 34, 35, 36, 37, 38, 39, 40, 41, 42, 43, 24, 44, 45, 46, 47, 48, 49, 50, 51, 52, 53, 54, 55, 56, 57, 58, 26, 59, 60, 61, 62, 63, 64, 65, 66, 67, 68, 10, 69, 70, 71, 72, 73, 74, 75, 76, 77, 78, 79, 80, 81, 82, 83, 84, 85, 86, 87, 88, 89, 90, 91, 92, 93, 94, 95, 96, 97, 98, 99, 100, 101, 102, 103, 104, 105, 106, 107, 108, 109, 110, 111, 112, 113, 114, 152, 153, 154, 155, 156, 157, 158, 142, 143, 144, 145, 146, 147, 159, 160, 161, 162, 163, 164, 165, 166, 167, 168, 169, 170, 171] (by decide +kernel) (by decide +kernel)
set_option maxRecDepth 20000 in
theorem gX9_init_X5_init : GoodIn wsX9_init (wsX5_init) := ggX9_init_X5_init
set_option maxRecDepth 20000 in
theorem ggX9_init_X2_init : GoodIn wsX9_init wsX2_init := goodIn_r _ [117, 118, 2, 3, 119, 120, 9, 10, 121, 29, 30, 31, 32, 33, 34, 35, 36, 37, 38, 39, 40, 41, 42, 43, 24, 44, 45, 46, 47, 48, 49, 50, 51, 52, 53, 54, 55, 56, 57, 58, 26, 59, 60, 61, 62, 63, 64, 65, 66, 67, 68, 69, 70, 71, 72, 73, 74, 75, 76, 77, 78, 79, 80, 81, 82, 83, 84, 85, 86, 87, 88, 89, 90, 91, 92, 93, 94, 95, 96, 97, 98, 99, 100, 101, 102, 103, 104, 105, 106, 107, 108, 109, 110, 111, 112, 113, 114, 148, 149, 142, 143, 144, 145, 146, 147, 152, 153, 154, 155, 156, 157, 158, 159, 160, 161, 162, 163, 164, 165, 166, 167, 168, 169, 170, 171] (by decide +kernel) (by decide +kernel)
set_option maxRecDepth 20000 in
theorem gX9_init_X2_init : GoodIn wsX9_init (wsX2_init) := ggX9_init_X2_init
set_option maxRecDepth 20000 in
theorem ggX9_init_X4_init : GoodIn wsX9_init wsX4_init := goodIn_r _ [124, 125, 2, 3, 126, 127, 26, 128, 9, 10, 129, 29, 30, 31, 32, 33, 34, 35, 36, 37, 38, 39, 40, 41, 42, 43, 24, 44, 45, 46, 47, 48, 49, 50, 51, 52, 53, 54, 55, 56, 57, 58, 59, 60, 61, 62, 63, 64, 65, 66, 67, 68, 69, 70, 71, 72, 73, 74, 75, 76, 77, 78, 79, 80, 81, 82, 83, 84, 85, 86, 87, 88, 89, 90, 91, 92, 93, 94, 95, 96, 97, 98, 99, 100, 101, 102, 103, 104, 105, 106, 107, 108, 109, 110, 111, 112, 113, 114, 150, 151, 142, 143, 144, 145, 146, 147, 152, 153, 154, 155, 156, 157, 158, 159, 160, 161, 162, 163, 164, 165, 166, 167, 168, 169, 170, 171] (by decide +kernel) (by decide +kernel)
set_option maxRecDepth 20000 in
theorem gX9_init_X4_init : GoodIn wsX9_init (wsX4_init) := ggX9_init_X4_init
theorem dX9_init_0 : decode cX9_init 0 = .ok (.aload_n 0, 1) := by decide +kernel
theorem dX9_init_1 : decode cX9_init 1 = .ok (.invokespecial 1, 3) := by decide +kernel
theorem dX9_init_4 : decode cX9_init 4 = .ok (.aload_n 0, 1) := by decide +kernel
theorem dX9_init_5 : decode cX9_init 5 = .ok (.new 7, 3) := by decide +kernel
theorem dX9_init_8 : decode cX9_init 8 = .ok (.dup, 1) := by decide +kernel
theorem dX9_init_9 : decode cX9_init 9 = .ok (.invokespecial 9, 3) := by decide +kernel
theorem dX9_init_12 : decode cX9_init 12 = .ok (.putfield 10, 3) := by decide +kernel
theorem dX9_init_15 : decode cX9_init 15 = .ok (.aload_n 0, 1) := by decide +kernel
theorem dX9_init_16 : decode cX9_init 16 = .ok (.new 16, 3) := by decide +kernel
theorem dX9_init_19 : decode cX9_init 19 = .ok (.dup, 1) := by decide +kernel
theorem dX9_init_20 : decode cX9_init 20 = .ok (.invokespecial 18, 3) := by decide +kernel
theorem dX9_init_23 : decode cX9_init 23 = .ok (.putfield 19, 3) := by decide +kernel
theorem dX9_init_26 : decode cX9_init 26 = .ok (.aload_n 0, 1) := by decide +kernel
theorem dX9_init_27 : decode cX9_init 27 = .ok (.new 16, 3) := by decide +kernel
theorem dX9_init_30 : decode cX9_init 30 = .ok (.dup, 1) := by decide +kernel
theorem dX9_init_31 : decode cX9_init 31 = .ok (.invokespecial 18, 3) := by decide +kernel
theorem dX9_init_34 : decode cX9_init 34 = .ok (.putfield 23, 3) := by decide +kernel
theorem dX9_init_37 : decode cX9_init 37 = .ok (.aload_n 0, 1) := by decide +kernel
theorem dX9_init_38 : decode cX9_init 38 = .ok (.new 26, 3) := by decide +kernel
theorem dX9_init_41 : decode cX9_init 41 = .ok (.dup, 1) := by decide +kernel
theorem dX9_init_42 : decode cX9_init 42 = .ok (.invokespecial 28, 3) := by decide +kernel
theorem dX9_init_45 : decode cX9_init 45 = .ok (.putfield 29, 3) := by decide +kernel
theorem dX9_init_48 : decode cX9_init 48 = .ok (.aload_n 0, 1) := by decide +kernel
theorem dX9_init_49 : decode cX9_init 49 = .ok (.new 33, 3) := by decide +kernel
theorem dX9_init_52 : decode cX9_init 52 = .ok (.dup, 1) := by decide +kernel
theorem dX9_init_53 : decode cX9_init 53 = .ok (.invokespecial 35, 3) := by decide +kernel
theorem dX9_init_56 : decode cX9_init 56 = .ok (.putfield 36, 3) := by decide +kernel
theorem dX9_init_59 : decode cX9_init 59 = .ok (.return_, 1) := by decide +kernel
set_option maxRecDepth 20000 in
theorem ggX9_append_X9_needRange : GoodIn wsX9_append wsX9_needRange := goodIn_ca (goodIn_r _ [8, 9, 10] (by decide +kernel) (by decide +kernel)) (goodIn_sub (fun _ h => List.mem_cons_of_mem _ (List.mem_append_right _ h)) (by decide +kernel))
set_option maxRecDepth 20000 in
theorem gX9_append_X9_needRange : GoodIn wsX9_append (va_wsS RX9 40 yX9_needRange wsX9_needRange) := goodIn_app (goodIn_of _ (by decide +kernel)) ggX9_append_X9_needRange
set_option maxRecDepth 20000 in
theorem ggX9_append_X8_add : GoodIn wsX9_append wsX8_add := goodIn_r _ [15, 16, 17, 23, 24, 25, 26, 27, 28, 29] (by decide +kernel) (by decide +kernel)
set_option maxRecDepth 20000 in
theorem gX9_append_X8_add : GoodIn wsX9_append (wsV RX9 55 RX8 yX8_add wsX8_add) := goodIn_app (goodIn_of _ (by decide +kernel)) ggX9_append_X8_add
theorem dX9_append_0 : decode cX9_append 0 = .ok (.iload_n 1, 1) := by decide +kernel
theorem dX9_append_1 : decode cX9_append 1 = .ok (.iconst 0, 1) := by decide +kernel
theorem dX9_append_2 : decode cX9_append 2 = .ok (.sipush 255, 3) := by decide +kernel
theorem dX9_append_5 : decode cX9_append 5 = .ok (.invokestatic 40, 3) := by decide +kernel
theorem dX9_append_8 : decode cX9_append 8 = .ok (.aload_n 0, 1) := by decide +kernel
theorem dX9_append_9 : decode cX9_append 9 = .ok (.getfield 10, 3) := by decide +kernel
theorem dX9_append_12 : decode cX9_append 12 = .ok (.getfield 44, 3) := by decide +kernel
theorem dX9_append_15 : decode cX9_append 15 = .ok (.bipush 60, 2) := by decide +kernel
theorem dX9_append_17 : decode cX9_append 17 = .ok (.if_icmp .lt 13, 3) := by decide +kernel
theorem dX9_append_20 : decode cX9_append 20 = .ok (.new 48, 3) := by decide +kernel
theorem dX9_append_23 : decode cX9_append 23 = .ok (.dup, 1) := by decide +kernel
theorem dX9_append_24 : decode cX9_append 24 = .ok (.ldc 50, 2) := by decide +kernel
theorem dX9_append_26 : decode cX9_append 26 = .ok (.invokespecial 52, 3) := by decide +kernel
theorem dX9_append_29 : decode cX9_append 29 = .ok (.athrow, 1) := by decide +kernel
theorem dX9_append_30 : decode cX9_append 30 = .ok (.aload_n 0, 1) := by decide +kernel
theorem dX9_append_31 : decode cX9_append 31 = .ok (.getfield 10, 3) := by decide +kernel
theorem dX9_append_34 : decode cX9_append 34 = .ok (.iload_n 1, 1) := by decide +kernel
theorem dX9_append_35 : decode cX9_append 35 = .ok (.invokevirtual 55, 3) := by decide +kernel
theorem dX9_append_38 : decode cX9_append 38 = .ok (.aload_n 0, 1) := by decide +kernel
theorem dX9_append_39 : decode cX9_append 39 = .ok (.getfield 10, 3) := by decide +kernel
theorem dX9_append_42 : decode cX9_append 42 = .ok (.getfield 44, 3) := by decide +kernel
theorem dX9_append_45 : decode cX9_append 45 = .ok (.ireturn, 1) := by decide +kernel
theorem dX9_clearText_0 : decode cX9_clearText 0 = .ok (.aload_n 0, 1) := by decide +kernel
theorem dX9_clearText_1 : decode cX9_clearText 1 = .ok (.getfield 10, 3) := by decide +kernel
theorem dX9_clearText_4 : decode cX9_clearText 4 = .ok (.getfield 44, 3) := by decide +kernel
theorem dX9_clearText_7 : decode cX9_clearText 7 = .ok (.istore_n 1, 1) := by decide +kernel
theorem dX9_clearText_8 : decode cX9_clearText 8 = .ok (.aload_n 0, 1) := by decide +kernel
theorem dX9_clearText_9 : decode cX9_clearText 9 = .ok (.getfield 10, 3) := by decide +kernel
theorem dX9_clearText_12 : decode cX9_clearText 12 = .ok (.iconst 0, 1) := by decide +kernel
theorem dX9_clearText_13 : decode cX9_clearText 13 = .ok (.putfield 44, 3) := by decide +kernel
theorem dX9_clearText_16 : decode cX9_clearText 16 = .ok (.iload_n 1, 1) := by decide +kernel
theorem dX9_clearText_17 : decode cX9_clearText 17 = .ok (.ireturn, 1) := by decide +kernel
set_option maxRecDepth 20000 in
theorem ggX9_errorPosition_X8_readInto : GoodIn wsX9_errorPosition wsX8_readInto := goodIn_r _ [7, 8, 9, 10, 11, 12, 13, 14, 15, 16, 17, 18, 19, 20, 21, 22, 23, 24, 25, 26, 27, 28, 29, 30, 31, 32, 33, 34, 35, 36, 37, 38, 39, 40, 41, 42, 43, 44, 45, 46, 47, 48, 49, 50, 51, 52, 53, 54, 55, 56, 57, 58, 59, 60, 61, 62, 63, 64, 65, 66, 67, 68, 69, 70, 71, 72, 73, 74, 6, 75, 76, 77, 78, 79, 80, 81, 82, 83, 84, 85, 86, 87, 88, 89, 90, 91, 92, 93, 94, 95, 96, 97, 98, 99, 100, 101, 102, 103, 104, 105, 106, 107, 108, 109, 110, 111, 112, 113, 114, 115, 116, 117, 118, 119, 120, 121, 127, 128, 129, 130, 131, 132, 133, 134, 135, 136, 137, 138, 139, 140, 141, 142, 143, 144, 145, 146, 147, 148, 149, 150, 151, 152, 153, 154, 155, 156, 157, 158, 159] (by decide +kernel) (by decide +kernel)
set_option maxRecDepth 20000 in
theorem gX9_errorPosition_X8_readInto : GoodIn wsX9_errorPosition (wsV RX9 59 RX8 yX8_readInto wsX8_readInto) := goodIn_app (goodIn_of _ (by decide +kernel)) ggX9_errorPosition_X8_readInto
theorem dX9_errorPosition_0 : decode cX9_errorPosition 0 = .ok (.aload_n 0, 1) := by decide +kernel
theorem dX9_errorPosition_1 : decode cX9_errorPosition 1 = .ok (.getfield 10, 3) := by decide +kernel
theorem dX9_errorPosition_4 : decode cX9_errorPosition 4 = .ok (.aload_n 0, 1) := by decide +kernel
theorem dX9_errorPosition_5 : decode cX9_errorPosition 5 = .ok (.getfield 23, 3) := by decide +kernel
theorem dX9_errorPosition_8 : decode cX9_errorPosition 8 = .ok (.invokevirtual 59, 3) := by decide +kernel
theorem dX9_errorPosition_11 : decode cX9_errorPosition 11 = .ok (.ireturn, 1) := by decide +kernel
set_option maxRecDepth 20000 in
theorem ggX9_load_X8_readInto : GoodIn wsX9_load wsX8_readInto := goodIn_r _ [13, 14, 15, 16, 17, 18, 19, 20, 21, 22, 23, 24, 25, 26, 27, 28, 29, 30, 31, 32, 33, 34, 35, 36, 37, 38, 39, 40, 41, 42, 43, 44, 45, 46, 47, 48, 49, 50, 51, 52, 53, 54, 55, 56, 57, 58, 59, 60, 61, 62, 63, 64, 65, 66, 67, 68, 69, 70, 71, 72, 73, 74, 75, 76, 77, 78, 79, 80, 12, 81, 82, 83, 84, 85, 86, 87, 88, 89, 90, 91, 92, 93, 94, 95, 96, 97, 98, 99, 100, 101, 102, 103, 104, 105, 106, 107, 108, 109, 110, 111, 112, 113, 114, 115, 116, 117, 118, 119, 120, 121, 122, 123, 124, 125, 126, 127, 180, 181, 182, 183, 184, 185, 186, 187, 188, 189, 190, 191, 192, 193, 194, 195, 196, 197, 198, 199, 200, 201, 202, 203, 204, 205, 206, 207, 208, 209, 210, 211, 212] (by decide +kernel) (by decide +kernel)
set_option maxRecDepth 20000 in
theorem gX9_load_X8_readInto : GoodIn wsX9_load (wsV RX9 59 RX8 yX8_readInto wsX8_readInto) := goodIn_app (goodIn_of _ (by decide +kernel)) ggX9_load_X8_readInto
set_option maxRecDepth 20000 in
theorem ggX9_load_X5_copyFrom : GoodIn wsX9_load wsX5_copyFrom := goodIn_r _ [131, 22, 23, 24, 25, 64, 132, 133, 134, 135, 26, 136, 137, 138, 30, 139, 40, 41, 42, 32, 33, 34, 35, 140, 141, 142, 46, 143, 48, 144, 49, 50, 51, 145, 146, 147, 55, 148, 57, 149, 150, 151, 152, 58, 59, 153, 154, 155, 68, 156, 76, 77, 71, 187, 188, 189, 190, 191, 192, 193, 194, 195, 196, 197, 198, 199, 200, 201, 202, 203, 204, 205, 206, 207, 208, 209, 210, 211, 212] (by decide +kernel) (by decide +kernel)
set_option maxRecDepth 20000 in
theorem gX9_load_X5_copyFrom : GoodIn wsX9_load (wsV RX9 66 RX5 yX5_copyFrom wsX5_copyFrom) := goodIn_app (goodIn_of _ (by decide +kernel)) ggX9_load_X5_copyFrom
set_option maxRecDepth 20000 in
theorem ggX9_load_X2_forget : GoodIn wsX9_load wsX2_forget := goodIn_r _ [161, 162, 213, 214] (by decide +kernel) (by decide +kernel)
set_option maxRecDepth 20000 in
theorem gX9_load_X2_forget : GoodIn wsX9_load (wsV RX9 70 RX2 yX2_forget wsX2_forget) := goodIn_app (goodIn_of _ (by decide +kernel)) ggX9_load_X2_forget
set_option maxRecDepth 20000 in
theorem ggX9_load_X4_empty : GoodIn wsX9_load wsX4_empty := goodIn_r _ [167, 168, 215, 216] (by decide +kernel) (by decide +kernel)
set_option maxRecDepth 20000 in
theorem gX9_load_X4_empty : GoodIn wsX9_load (wsV RX9 73 RX4 yX4_empty wsX4_empty) := goodIn_app (goodIn_of _ (by decide +kernel)) ggX9_load_X4_empty
set_option maxRecDepth 20000 in
theorem ggX9_load_X5_alarmsSet : GoodIn wsX9_load wsX5_alarmsSet := goodIn_r _ [172, 26, 173, 174, 187, 188, 189, 190, 191, 192, 210, 211, 212] (by decide +kernel) (by decide +kernel)
set_option maxRecDepth 20000 in
theorem gX9_load_X5_alarmsSet : GoodIn wsX9_load (wsV RX9 76 RX5 yX5_alarmsSet wsX5_alarmsSet) := goodIn_app (goodIn_of _ (by decide +kernel)) ggX9_load_X5_alarmsSet
theorem dX9_load_0 : decode cX9_load 0 = .ok (.aload_n 0, 1) := by decide +kernel
theorem dX9_load_1 : decode cX9_load 1 = .ok (.getfield 10, 3) := by decide +kernel
theorem dX9_load_4 : decode cX9_load 4 = .ok (.aload_n 0, 1) := by decide +kernel
theorem dX9_load_5 : decode cX9_load 5 = .ok (.getfield 23, 3) := by decide +kernel
theorem dX9_load_8 : decode cX9_load 8 = .ok (.invokevirtual 59, 3) := by decide +kernel
theorem dX9_load_11 : decode cX9_load 11 = .ok (.ldc 63, 2) := by decide +kernel
theorem dX9_load_13 : decode cX9_load 13 = .ok (.if_icmp .eq 13, 3) := by decide +kernel
theorem dX9_load_16 : decode cX9_load 16 = .ok (.new 48, 3) := by decide +kernel
theorem dX9_load_19 : decode cX9_load 19 = .ok (.dup, 1) := by decide +kernel
theorem dX9_load_20 : decode cX9_load 20 = .ok (.ldc 64, 2) := by decide +kernel
theorem dX9_load_22 : decode cX9_load 22 = .ok (.invokespecial 52, 3) := by decide +kernel
theorem dX9_load_25 : decode cX9_load 25 = .ok (.athrow, 1) := by decide +kernel
theorem dX9_load_26 : decode cX9_load 26 = .ok (.aload_n 0, 1) := by decide +kernel
theorem dX9_load_27 : decode cX9_load 27 = .ok (.getfield 19, 3) := by decide +kernel
theorem dX9_load_30 : decode cX9_load 30 = .ok (.aload_n 0, 1) := by decide +kernel
theorem dX9_load_31 : decode cX9_load 31 = .ok (.getfield 23, 3) := by decide +kernel
theorem dX9_load_34 : decode cX9_load 34 = .ok (.invokevirtual 66, 3) := by decide +kernel
theorem dX9_load_37 : decode cX9_load 37 = .ok (.aload_n 0, 1) := by decide +kernel
theorem dX9_load_38 : decode cX9_load 38 = .ok (.getfield 29, 3) := by decide +kernel
theorem dX9_load_41 : decode cX9_load 41 = .ok (.invokevirtual 70, 3) := by decide +kernel
theorem dX9_load_44 : decode cX9_load 44 = .ok (.aload_n 0, 1) := by decide +kernel
theorem dX9_load_45 : decode cX9_load 45 = .ok (.getfield 36, 3) := by decide +kernel
theorem dX9_load_48 : decode cX9_load 48 = .ok (.invokevirtual 73, 3) := by decide +kernel
theorem dX9_load_51 : decode cX9_load 51 = .ok (.aload_n 0, 1) := by decide +kernel
theorem dX9_load_52 : decode cX9_load 52 = .ok (.getfield 19, 3) := by decide +kernel
theorem dX9_load_55 : decode cX9_load 55 = .ok (.invokevirtual 76, 3) := by decide +kernel
theorem dX9_load_58 : decode cX9_load 58 = .ok (.ireturn, 1) := by decide +kernel
set_option maxRecDepth 20000 in
theorem ggX9_about_X9_needRange : GoodIn wsX9_about wsX9_needRange := goodIn_ca (goodIn_r _ [5, 6, 7] (by decide +kernel) (by decide +kernel)) (goodIn_sub (fun _ h => List.mem_cons_of_mem _ (List.mem_append_right _ h)) (by decide +kernel))
set_option maxRecDepth 20000 in
theorem gX9_about_X9_needRange : GoodIn wsX9_about (va_wsS RX9 40 yX9_needRange wsX9_needRange) := goodIn_app (goodIn_of _ (by decide +kernel)) ggX9_about_X9_needRange
set_option maxRecDepth 20000 in
theorem ggX9_about_X5_tell : GoodIn wsX9_about wsX5_tell := goodIn_r _ [12, 13, 14, 15, 16, 17, 18, 19, 20, 21, 22, 23, 24, 25, 26, 27, 28, 29, 11, 30, 31, 32, 33, 34, 35, 36, 37, 38, 39, 40, 41, 42, 43, 44, 45, 46, 47, 48, 49, 50, 51, 52, 53, 54, 55, 61, 62, 63, 64, 65, 66, 67, 68, 69, 70, 71, 72, 73, 74, 75, 76, 77, 78, 79, 80, 81, 82, 83, 84, 85, 86] (by decide +kernel) (by decide +kernel)
set_option maxRecDepth 20000 in
theorem gX9_about_X5_tell : GoodIn wsX9_about (wsV RX9 80 RX5 yX5_tell wsX5_tell) := goodIn_app (goodIn_of _ (by decide +kernel)) ggX9_about_X5_tell
theorem dX9_about_0 : decode cX9_about 0 = .ok (.iload_n 1, 1) := by decide +kernel
theorem dX9_about_1 : decode cX9_about 1 = .ok (.iconst 0, 1) := by decide +kernel
theorem dX9_about_2 : decode cX9_about 2 = .ok (.bipush 14, 2) := by decide +kernel
theorem dX9_about_4 : decode cX9_about 4 = .ok (.invokestatic 40, 3) := by decide +kernel
theorem dX9_about_7 : decode cX9_about 7 = .ok (.aload_n 0, 1) := by decide +kernel
theorem dX9_about_8 : decode cX9_about 8 = .ok (.getfield 19, 3) := by decide +kernel
theorem dX9_about_11 : decode cX9_about 11 = .ok (.iload_n 1, 1) := by decide +kernel
theorem dX9_about_12 : decode cX9_about 12 = .ok (.invokevirtual 80, 3) := by decide +kernel
theorem dX9_about_15 : decode cX9_about 15 = .ok (.ireturn, 1) := by decide +kernel
set_option maxRecDepth 20000 in
theorem ggX9_account_X9_needRange : GoodIn wsX9_account wsX9_needRange := goodIn_ca (goodIn_r _ [10, 11, 12] (by decide +kernel) (by decide +kernel)) (goodIn_sub (fun _ h => List.mem_cons_of_mem _ (List.mem_append_right _ h)) (by decide +kernel))
set_option maxRecDepth 20000 in
theorem gX9_account_X9_needRange : GoodIn wsX9_account (va_wsS RX9 40 yX9_needRange wsX9_needRange) := goodIn_app (goodIn_of _ (by decide +kernel)) ggX9_account_X9_needRange
theorem dX9_account_0 : decode cX9_account 0 = .ok (.iload_n 1, 1) := by decide +kernel
theorem dX9_account_1 : decode cX9_account 1 = .ok (.iconst 0, 1) := by decide +kernel
theorem dX9_account_2 : decode cX9_account 2 = .ok (.iconst 5, 1) := by decide +kernel
theorem dX9_account_3 : decode cX9_account 3 = .ok (.invokestatic 40, 3) := by decide +kernel
theorem dX9_account_6 : decode cX9_account 6 = .ok (.iload_n 1, 1) := by decide +kernel
theorem dX9_account_7 : decode cX9_account 7 = .ok (.iconst 4, 1) := by decide +kernel
theorem dX9_account_8 : decode cX9_account 8 = .ok (.if_icmp .ge 17, 3) := by decide +kernel
theorem dX9_account_11 : decode cX9_account 11 = .ok (.aload_n 0, 1) := by decide +kernel
theorem dX9_account_12 : decode cX9_account 12 = .ok (.getfield 19, 3) := by decide +kernel
theorem dX9_account_15 : decode cX9_account 15 = .ok (.getfield 84, 3) := by decide +kernel
theorem dX9_account_18 : decode cX9_account 18 = .ok (.getfield 88, 3) := by decide +kernel
theorem dX9_account_21 : decode cX9_account 21 = .ok (.iload_n 1, 1) := by decide +kernel
theorem dX9_account_22 : decode cX9_account 22 = .ok (.iaload, 1) := by decide +kernel
theorem dX9_account_23 : decode cX9_account 23 = .ok (.i2l, 1) := by decide +kernel
theorem dX9_account_24 : decode cX9_account 24 = .ok (.lreturn, 1) := by decide +kernel
theorem dX9_account_25 : decode cX9_account 25 = .ok (.iload_n 1, 1) := by decide +kernel
theorem dX9_account_26 : decode cX9_account 26 = .ok (.iconst 4, 1) := by decide +kernel
theorem dX9_account_27 : decode cX9_account 27 = .ok (.if_icmp .ne 16, 3) := by decide +kernel
theorem dX9_account_30 : decode cX9_account 30 = .ok (.aload_n 0, 1) := by decide +kernel
theorem dX9_account_31 : decode cX9_account 31 = .ok (.getfield 19, 3) := by decide +kernel
theorem dX9_account_34 : decode cX9_account 34 = .ok (.getfield 94, 3) := by decide +kernel
theorem dX9_account_37 : decode cX9_account 37 = .ok (.getfield 98, 3) := by decide +kernel
theorem dX9_account_40 : decode cX9_account 40 = .ok (.goto 13, 3) := by decide +kernel
theorem dX9_account_43 : decode cX9_account 43 = .ok (.aload_n 0, 1) := by decide +kernel
theorem dX9_account_44 : decode cX9_account 44 = .ok (.getfield 19, 3) := by decide +kernel
theorem dX9_account_47 : decode cX9_account 47 = .ok (.getfield 94, 3) := by decide +kernel
theorem dX9_account_50 : decode cX9_account 50 = .ok (.getfield 104, 3) := by decide +kernel
theorem dX9_account_53 : decode cX9_account 53 = .ok (.lreturn, 1) := by decide +kernel
set_option maxRecDepth 20000 in
theorem ggX9_register_X9_needIndex : GoodIn wsX9_register wsX9_needIndex := goodIn_ca (goodIn_r _ [6, 7, 8] (by decide +kernel) (by decide +kernel)) (goodIn_sub (fun _ h => List.mem_cons_of_mem _ (List.mem_append_right _ h)) (by decide +kernel))
set_option maxRecDepth 20000 in
theorem gX9_register_X9_needIndex : GoodIn wsX9_register (va_wsS RX9 107 yX9_needIndex wsX9_needIndex) := goodIn_app (goodIn_of _ (by decide +kernel)) ggX9_register_X9_needIndex
theorem dX9_register_0 : decode cX9_register 0 = .ok (.iload_n 1, 1) := by decide +kernel
theorem dX9_register_1 : decode cX9_register 1 = .ok (.bipush 8, 2) := by decide +kernel
theorem dX9_register_3 : decode cX9_register 3 = .ok (.invokestatic 107, 3) := by decide +kernel
theorem dX9_register_6 : decode cX9_register 6 = .ok (.aload_n 0, 1) := by decide +kernel
theorem dX9_register_7 : decode cX9_register 7 = .ok (.getfield 19, 3) := by decide +kernel
theorem dX9_register_10 : decode cX9_register 10 = .ok (.getfield 111, 3) := by decide +kernel
theorem dX9_register_13 : decode cX9_register 13 = .ok (.iload_n 1, 1) := by decide +kernel
theorem dX9_register_14 : decode cX9_register 14 = .ok (.iaload, 1) := by decide +kernel
theorem dX9_register_15 : decode cX9_register 15 = .ok (.ireturn, 1) := by decide +kernel
set_option maxRecDepth 20000 in
theorem ggX9_isGuarded_X9_needIndex : GoodIn wsX9_isGuarded wsX9_needIndex := goodIn_ca (goodIn_r _ [7, 8, 9] (by decide +kernel) (by decide +kernel)) (goodIn_sub (fun _ h => List.mem_cons_of_mem _ (List.mem_append_right _ h)) (by decide +kernel))
set_option maxRecDepth 20000 in
theorem gX9_isGuarded_X9_needIndex : GoodIn wsX9_isGuarded (va_wsS RX9 107 yX9_needIndex wsX9_needIndex) := goodIn_app (goodIn_of _ (by decide +kernel)) ggX9_isGuarded_X9_needIndex
theorem dX9_isGuarded_0 : decode cX9_isGuarded 0 = .ok (.iload_n 1, 1) := by decide +kernel
theorem dX9_isGuarded_1 : decode cX9_isGuarded 1 = .ok (.iconst 3, 1) := by decide +kernel
theorem dX9_isGuarded_2 : decode cX9_isGuarded 2 = .ok (.invokestatic 107, 3) := by decide +kernel
theorem dX9_isGuarded_5 : decode cX9_isGuarded 5 = .ok (.aload_n 0, 1) := by decide +kernel
theorem dX9_isGuarded_6 : decode cX9_isGuarded 6 = .ok (.getfield 19, 3) := by decide +kernel
theorem dX9_isGuarded_9 : decode cX9_isGuarded 9 = .ok (.getfield 114, 3) := by decide +kernel
theorem dX9_isGuarded_12 : decode cX9_isGuarded 12 = .ok (.getfield 118, 3) := by decide +kernel
theorem dX9_isGuarded_15 : decode cX9_isGuarded 15 = .ok (.iload_n 1, 1) := by decide +kernel
theorem dX9_isGuarded_16 : decode cX9_isGuarded 16 = .ok (.baload, 1) := by decide +kernel
theorem dX9_isGuarded_17 : decode cX9_isGuarded 17 = .ok (.ireturn, 1) := by decide +kernel
set_option maxRecDepth 20000 in
theorem ggX9_row_X9_needIndex : GoodIn wsX9_row wsX9_needIndex := goodIn_ca (goodIn_r _ [7, 8, 9] (by decide +kernel) (by decide +kernel)) (goodIn_sub (fun _ h => List.mem_cons_of_mem _ (List.mem_append_left _ (List.mem_append_right _ h))) (by decide +kernel))
set_option maxRecDepth 20000 in
theorem gX9_row_X9_needIndex : GoodIn wsX9_row (va_wsS RX9 107 yX9_needIndex wsX9_needIndex) := goodIn_app (goodIn_of _ (by decide +kernel)) ggX9_row_X9_needIndex
set_option maxRecDepth 20000 in
theorem ggX9_row_X9_needRange : GoodIn wsX9_row wsX9_needRange := goodIn_ca (goodIn_r _ [12, 13, 14] (by decide +kernel) (by decide +kernel)) (goodIn_sub (fun _ h => List.mem_cons_of_mem _ (List.mem_append_right _ h)) (by decide +kernel))
set_option maxRecDepth 20000 in
theorem gX9_row_X9_needRange : GoodIn wsX9_row (va_wsS RX9 40 yX9_needRange wsX9_needRange) := goodIn_app (goodIn_of _ (by decide +kernel)) ggX9_row_X9_needRange
set_option maxRecDepth 20000 in
theorem ggX9_row_X7_tellRow : GoodIn wsX9_row wsX7_tellRow := goodIn_r _ [19, 20, 21, 22, 34, 35, 36, 37, 38, 39] (by decide +kernel) (by decide +kernel)
set_option maxRecDepth 20000 in
theorem gX9_row_X7_tellRow : GoodIn wsX9_row (wsV RX9 127 RX7 yX7_tellRow wsX7_tellRow) := goodIn_app (goodIn_of _ (by decide +kernel)) ggX9_row_X7_tellRow
theorem dX9_row_0 : decode cX9_row 0 = .ok (.iload_n 1, 1) := by decide +kernel
theorem dX9_row_1 : decode cX9_row 1 = .ok (.aload_n 0, 1) := by decide +kernel
theorem dX9_row_2 : decode cX9_row 2 = .ok (.getfield 19, 3) := by decide +kernel
theorem dX9_row_5 : decode cX9_row 5 = .ok (.getfield 114, 3) := by decide +kernel
theorem dX9_row_8 : decode cX9_row 8 = .ok (.getfield 124, 3) := by decide +kernel
theorem dX9_row_11 : decode cX9_row 11 = .ok (.invokestatic 107, 3) := by decide +kernel
theorem dX9_row_14 : decode cX9_row 14 = .ok (.iload_n 2, 1) := by decide +kernel
theorem dX9_row_15 : decode cX9_row 15 = .ok (.iconst 0, 1) := by decide +kernel
theorem dX9_row_16 : decode cX9_row 16 = .ok (.iconst 2, 1) := by decide +kernel
theorem dX9_row_17 : decode cX9_row 17 = .ok (.invokestatic 40, 3) := by decide +kernel
theorem dX9_row_20 : decode cX9_row 20 = .ok (.aload_n 0, 1) := by decide +kernel
theorem dX9_row_21 : decode cX9_row 21 = .ok (.getfield 19, 3) := by decide +kernel
theorem dX9_row_24 : decode cX9_row 24 = .ok (.getfield 114, 3) := by decide +kernel
theorem dX9_row_27 : decode cX9_row 27 = .ok (.iload_n 1, 1) := by decide +kernel
theorem dX9_row_28 : decode cX9_row 28 = .ok (.iload_n 2, 1) := by decide +kernel
theorem dX9_row_29 : decode cX9_row 29 = .ok (.invokevirtual 127, 3) := by decide +kernel
theorem dX9_row_32 : decode cX9_row 32 = .ok (.ireturn, 1) := by decide +kernel
set_option maxRecDepth 20000 in
theorem ggX9_alarm_X9_needIndex : GoodIn wsX9_alarm wsX9_needIndex := goodIn_ca (goodIn_r _ [6, 7, 8] (by decide +kernel) (by decide +kernel)) (goodIn_sub (fun _ h => List.mem_cons_of_mem _ (List.mem_append_left _ (List.mem_append_right _ h))) (by decide +kernel))
set_option maxRecDepth 20000 in
theorem gX9_alarm_X9_needIndex : GoodIn wsX9_alarm (va_wsS RX9 107 yX9_needIndex wsX9_needIndex) := goodIn_app (goodIn_of _ (by decide +kernel)) ggX9_alarm_X9_needIndex
set_option maxRecDepth 20000 in
theorem ggX9_alarm_X9_needRange : GoodIn wsX9_alarm wsX9_needRange := goodIn_ca (goodIn_r _ [11, 12, 13] (by decide +kernel) (by decide +kernel)) (goodIn_sub (fun _ h => List.mem_cons_of_mem _ (List.mem_append_right _ h)) (by decide +kernel))
set_option maxRecDepth 20000 in
theorem gX9_alarm_X9_needRange : GoodIn wsX9_alarm (va_wsS RX9 40 yX9_needRange wsX9_needRange) := goodIn_app (goodIn_of _ (by decide +kernel)) ggX9_alarm_X9_needRange
set_option maxRecDepth 20000 in
theorem ggX9_alarm_X0_tell : GoodIn wsX9_alarm wsX0_tell := goodIn_r _ [18, 19, 20, 21, 33, 34, 35] (by decide +kernel) (by decide +kernel)
set_option maxRecDepth 20000 in
theorem gX9_alarm_X0_tell : GoodIn wsX9_alarm (wsV RX9 135 RX0 yX0_tell wsX0_tell) := goodIn_app (goodIn_of _ (by decide +kernel)) ggX9_alarm_X0_tell
theorem dX9_alarm_0 : decode cX9_alarm 0 = .ok (.iload_n 1, 1) := by decide +kernel
theorem dX9_alarm_1 : decode cX9_alarm 1 = .ok (.iconst 4, 1) := by decide +kernel
theorem dX9_alarm_2 : decode cX9_alarm 2 = .ok (.invokestatic 107, 3) := by decide +kernel
theorem dX9_alarm_5 : decode cX9_alarm 5 = .ok (.iload_n 2, 1) := by decide +kernel
theorem dX9_alarm_6 : decode cX9_alarm 6 = .ok (.iconst 0, 1) := by decide +kernel
theorem dX9_alarm_7 : decode cX9_alarm 7 = .ok (.iconst 2, 1) := by decide +kernel
theorem dX9_alarm_8 : decode cX9_alarm 8 = .ok (.invokestatic 40, 3) := by decide +kernel
theorem dX9_alarm_11 : decode cX9_alarm 11 = .ok (.aload_n 0, 1) := by decide +kernel
theorem dX9_alarm_12 : decode cX9_alarm 12 = .ok (.getfield 19, 3) := by decide +kernel
theorem dX9_alarm_15 : decode cX9_alarm 15 = .ok (.getfield 131, 3) := by decide +kernel
theorem dX9_alarm_18 : decode cX9_alarm 18 = .ok (.iload_n 1, 1) := by decide +kernel
theorem dX9_alarm_19 : decode cX9_alarm 19 = .ok (.aaload, 1) := by decide +kernel
theorem dX9_alarm_20 : decode cX9_alarm 20 = .ok (.iload_n 2, 1) := by decide +kernel
theorem dX9_alarm_21 : decode cX9_alarm 21 = .ok (.invokevirtual 135, 3) := by decide +kernel
theorem dX9_alarm_24 : decode cX9_alarm 24 = .ok (.ireturn, 1) := by decide +kernel
set_option maxRecDepth 20000 in
theorem ggX9_pass_X9_needRange : GoodIn wsX9_pass wsX9_needRange := goodIn_ca (goodIn_r _ [8, 9, 10] (by decide +kernel) (by decide +kernel)) (goodIn_sub (fun _ h => List.mem_cons_of_mem _ (List.mem_append_right _ h)) (by decide +kernel))
set_option maxRecDepth 20000 in
theorem gX9_pass_X9_needRange : GoodIn wsX9_pass (va_wsS RX9 40 yX9_needRange wsX9_needRange) := goodIn_app (goodIn_of _ (by decide +kernel)) ggX9_pass_X9_needRange
set_option maxRecDepth 20000 in
theorem ggX9_pass_X2_remember : GoodIn wsX9_pass wsX2_remember := goodIn_r _ [15, 16, 17, 18, 19, 20, 14, 21, 22, 23, 24, 25, 26, 27, 28, 29, 30, 31, 32, 33, 34, 35, 36, 37, 38, 39, 40, 41, 42, 43, 44, 45, 46, 47, 48, 49, 50, 51, 52, 53, 54, 55, 56, 57, 58, 59, 60, 61, 62, 63, 64, 65, 66, 67, 68, 69, 70, 71, 72, 73, 74, 75, 76, 77, 78, 162, 163, 149, 150, 151, 152, 153, 154, 155, 156, 157, 158, 159, 160, 161, 164, 165, 166, 167, 168, 169, 170, 171, 172, 173, 174, 175, 176] (by decide +kernel) (by decide +kernel)
set_option maxRecDepth 20000 in
theorem gX9_pass_X2_remember : GoodIn wsX9_pass (wsV RX9 138 RX2 yX2_remember wsX2_remember) := goodIn_app (goodIn_of _ (by decide +kernel)) ggX9_pass_X2_remember
set_option maxRecDepth 20000 in
theorem ggX9_pass_X5_passMinutes : GoodIn wsX9_pass wsX5_passMinutes := goodIn_r _ [82, 83, 84, 85, 25, 86, 29, 27, 87, 88, 89, 52, 90, 56, 57, 91, 92, 93, 94, 54, 95, 96, 97, 98, 99, 100, 101, 102, 103, 104, 28, 30, 105, 36, 106, 107, 108, 109, 40, 110, 42, 43, 44, 111, 112, 113, 114, 31, 115, 116, 117, 118, 119, 120, 121, 74, 122, 77, 78, 123, 124, 125, 126, 127, 128, 129, 130, 131, 132, 133, 134, 45, 46, 47, 48, 135, 136, 137, 138, 139, 76, 140, 141, 142, 143, 149, 150, 151, 152, 153, 154, 164, 165, 166, 167, 168, 169, 170, 171, 172, 173, 174, 175, 176, 155, 156, 157, 158, 159, 160, 161] (by decide +kernel) (by decide +kernel)
set_option maxRecDepth 20000 in
theorem gX9_pass_X5_passMinutes : GoodIn wsX9_pass (wsV RX9 141 RX5 yX5_passMinutes wsX5_passMinutes) := goodIn_app (goodIn_of _ (by decide +kernel)) ggX9_pass_X5_passMinutes
theorem dX9_pass_0 : decode cX9_pass 0 = .ok (.iload_n 1, 1) := by decide +kernel
theorem dX9_pass_1 : decode cX9_pass 1 = .ok (.iconst 1, 1) := by decide +kernel
theorem dX9_pass_2 : decode cX9_pass 2 = .ok (.sipush 1440, 3) := by decide +kernel
theorem dX9_pass_5 : decode cX9_pass 5 = .ok (.invokestatic 40, 3) := by decide +kernel
theorem dX9_pass_8 : decode cX9_pass 8 = .ok (.aload_n 0, 1) := by decide +kernel
theorem dX9_pass_9 : decode cX9_pass 9 = .ok (.getfield 29, 3) := by decide +kernel
theorem dX9_pass_12 : decode cX9_pass 12 = .ok (.aload_n 0, 1) := by decide +kernel
theorem dX9_pass_13 : decode cX9_pass 13 = .ok (.getfield 19, 3) := by decide +kernel
theorem dX9_pass_16 : decode cX9_pass 16 = .ok (.invokevirtual 138, 3) := by decide +kernel
theorem dX9_pass_19 : decode cX9_pass 19 = .ok (.aload_n 0, 1) := by decide +kernel
theorem dX9_pass_20 : decode cX9_pass 20 = .ok (.getfield 19, 3) := by decide +kernel
theorem dX9_pass_23 : decode cX9_pass 23 = .ok (.iload_n 1, 1) := by decide +kernel
theorem dX9_pass_24 : decode cX9_pass 24 = .ok (.invokevirtual 141, 3) := by decide +kernel
theorem dX9_pass_27 : decode cX9_pass 27 = .ok (.aload_n 0, 1) := by decide +kernel
theorem dX9_pass_28 : decode cX9_pass 28 = .ok (.getfield 19, 3) := by decide +kernel
theorem dX9_pass_31 : decode cX9_pass 31 = .ok (.getfield 94, 3) := by decide +kernel
theorem dX9_pass_34 : decode cX9_pass 34 = .ok (.getfield 144, 3) := by decide +kernel
theorem dX9_pass_37 : decode cX9_pass 37 = .ok (.ireturn, 1) := by decide +kernel
set_option maxRecDepth 20000 in
theorem ggX9_level_X9_needRange : GoodIn wsX9_level wsX9_needRange := goodIn_ca (goodIn_r _ [7, 8, 9] (by decide +kernel) (by decide +kernel)) (goodIn_sub (fun _ h => List.mem_cons_of_mem _ (List.mem_append_right _ h)) (by decide +kernel))
set_option maxRecDepth 20000 in
theorem gX9_level_X9_needRange : GoodIn wsX9_level (va_wsS RX9 40 yX9_needRange wsX9_needRange) := goodIn_app (goodIn_of _ (by decide +kernel)) ggX9_level_X9_needRange
set_option maxRecDepth 20000 in
theorem ggX9_level_X2_remember : GoodIn wsX9_level wsX2_remember := goodIn_r _ [14, 15, 16, 17, 18, 19, 13, 20, 21, 22, 23, 24, 25, 26, 27, 28, 29, 30, 31, 32, 33, 34, 35, 36, 37, 38, 39, 40, 41, 42, 43, 44, 45, 46, 47, 48, 49, 50, 51, 52, 53, 54, 55, 56, 57, 58, 59, 60, 61, 62, 63, 64, 65, 66, 67, 68, 69, 70, 71, 72, 73, 74, 75, 76, 77, 126, 127, 120, 121, 122, 123, 124, 125, 128, 129, 130, 131, 132, 133, 134, 135, 136, 137, 138, 139, 140, 141, 142, 143, 144, 145, 146, 147] (by decide +kernel) (by decide +kernel)
set_option maxRecDepth 20000 in
theorem gX9_level_X2_remember : GoodIn wsX9_level (wsV RX9 138 RX2 yX2_remember wsX2_remember) := goodIn_app (goodIn_of _ (by decide +kernel)) ggX9_level_X2_remember
set_option maxRecDepth 20000 in
theorem ggX9_level_X5_changeLevel : GoodIn wsX9_level wsX5_changeLevel := goodIn_r _ [81, 28, 82, 83, 84, 85, 51, 86, 55, 56, 87, 88, 89, 24, 90, 91, 92, 93, 94, 95, 27, 29, 96, 35, 97, 98, 99, 100, 39, 101, 41, 42, 43, 102, 103, 104, 105, 30, 106, 107, 108, 109, 110, 111, 112, 73, 113, 76, 77, 120, 121, 122, 123, 124, 125, 135, 136, 137, 138, 139, 140, 141, 142, 143, 144, 145, 146, 147, 128, 129, 130, 131, 132, 133, 134] (by decide +kernel) (by decide +kernel)
set_option maxRecDepth 20000 in
theorem gX9_level_X5_changeLevel : GoodIn wsX9_level (wsV RX9 147 RX5 yX5_changeLevel wsX5_changeLevel) := goodIn_app (goodIn_of _ (by decide +kernel)) ggX9_level_X5_changeLevel
set_option maxRecDepth 20000 in
theorem ggX9_level_X6_domain : GoodIn wsX9_level wsX6_domain := goodIn_r _ [86, 55, 56, 135, 136, 137, 138] (by decide +kernel) (by decide +kernel)
set_option maxRecDepth 20000 in
theorem gX9_level_X6_domain : GoodIn wsX9_level (wsV RX9 150 RX6 yX6_domain wsX6_domain) := goodIn_app (goodIn_of _ (by decide +kernel)) ggX9_level_X6_domain
theorem dX9_level_0 : decode cX9_level 0 = .ok (.iload_n 1, 1) := by decide +kernel
theorem dX9_level_1 : decode cX9_level 1 = .ok (.iconst 0, 1) := by decide +kernel
theorem dX9_level_2 : decode cX9_level 2 = .ok (.bipush 9, 2) := by decide +kernel
theorem dX9_level_4 : decode cX9_level 4 = .ok (.invokestatic 40, 3) := by decide +kernel
theorem dX9_level_7 : decode cX9_level 7 = .ok (.aload_n 0, 1) := by decide +kernel
theorem dX9_level_8 : decode cX9_level 8 = .ok (.getfield 29, 3) := by decide +kernel
theorem dX9_level_11 : decode cX9_level 11 = .ok (.aload_n 0, 1) := by decide +kernel
theorem dX9_level_12 : decode cX9_level 12 = .ok (.getfield 19, 3) := by decide +kernel
theorem dX9_level_15 : decode cX9_level 15 = .ok (.invokevirtual 138, 3) := by decide +kernel
theorem dX9_level_18 : decode cX9_level 18 = .ok (.aload_n 0, 1) := by decide +kernel
theorem dX9_level_19 : decode cX9_level 19 = .ok (.getfield 19, 3) := by decide +kernel
theorem dX9_level_22 : decode cX9_level 22 = .ok (.iload_n 1, 1) := by decide +kernel
theorem dX9_level_23 : decode cX9_level 23 = .ok (.invokevirtual 147, 3) := by decide +kernel
theorem dX9_level_26 : decode cX9_level 26 = .ok (.aload_n 0, 1) := by decide +kernel
theorem dX9_level_27 : decode cX9_level 27 = .ok (.getfield 19, 3) := by decide +kernel
theorem dX9_level_30 : decode cX9_level 30 = .ok (.getfield 84, 3) := by decide +kernel
theorem dX9_level_33 : decode cX9_level 33 = .ok (.invokevirtual 150, 3) := by decide +kernel
theorem dX9_level_36 : decode cX9_level 36 = .ok (.ireturn, 1) := by decide +kernel
set_option maxRecDepth 20000 in
theorem ggX9_setTime_X9_needRange : GoodIn wsX9_setTime wsX9_needRange := goodIn_ca (goodIn_r _ [9, 10, 11] (by decide +kernel) (by decide +kernel)) (goodIn_sub (fun _ h => List.mem_cons_of_mem _ (List.mem_append_left _ (List.mem_append_right _ h))) (by decide +kernel))
set_option maxRecDepth 20000 in
theorem gX9_setTime_X9_needRange : GoodIn wsX9_setTime (va_wsS RX9 40 yX9_needRange wsX9_needRange) := goodIn_app (goodIn_of _ (by decide +kernel)) ggX9_setTime_X9_needRange
set_option maxRecDepth 20000 in
theorem ggX9_setTime_X9_needMain : GoodIn wsX9_setTime wsX9_needMain := goodIn_ca (goodIn_r _ [15, 16, 17, 3, 18, 19, 20, 21, 22, 23, 24, 25, 26, 27, 28, 29, 30, 98, 99, 100, 101, 102, 103, 104, 105, 106, 107, 108, 116, 117, 118, 119] (by decide +kernel) (by decide +kernel)) (goodIn_sub (fun _ h => List.mem_cons_of_mem _ (List.mem_append_right _ h)) (by decide +kernel))
set_option maxRecDepth 20000 in
theorem gX9_setTime_X9_needMain : GoodIn wsX9_setTime (wsV RX9 154 RX9 yX9_needMain wsX9_needMain) := goodIn_app (goodIn_of _ (by decide +kernel)) ggX9_setTime_X9_needMain
set_option maxRecDepth 20000 in
theorem ggX9_setTime_X2_remember : GoodIn wsX9_setTime wsX2_remember := goodIn_r _ [35, 36, 37, 38, 39, 40, 34, 41, 42, 43, 44, 21, 45, 46, 47, 23, 48, 49, 50, 51, 52, 53, 54, 55, 56, 57, 58, 59, 60, 61, 62, 63, 64, 65, 66, 67, 68, 69, 27, 70, 71, 72, 29, 30, 73, 74, 75, 76, 77, 78, 79, 80, 81, 82, 83, 84, 85, 86, 87, 88, 89, 90, 91, 92, 93, 120, 121, 103, 104, 105, 106, 107, 108, 109, 110, 111, 112, 113, 114, 115, 116, 117, 118, 119, 122, 123, 124, 125, 126, 127, 128, 129, 130] (by decide +kernel) (by decide +kernel)
set_option maxRecDepth 20000 in
theorem gX9_setTime_X2_remember : GoodIn wsX9_setTime (wsV RX9 138 RX2 yX2_remember wsX2_remember) := goodIn_app (goodIn_of _ (by decide +kernel)) ggX9_setTime_X2_remember
set_option maxRecDepth 20000 in
theorem ggX9_setTime_X1_setTo : GoodIn wsX9_setTime wsX1_setTo := goodIn_r _ [97, 60, 61, 62, 109, 110, 111, 112, 113, 114, 115] (by decide +kernel) (by decide +kernel)
set_option maxRecDepth 20000 in
theorem gX9_setTime_X1_setTo : GoodIn wsX9_setTime (wsV RX9 157 RX1 yX1_setTo wsX1_setTo) := goodIn_app (goodIn_of _ (by decide +kernel)) ggX9_setTime_X1_setTo
theorem dX9_setTime_0 : decode cX9_setTime 0 = .ok (.iload_n 1, 1) := by decide +kernel
theorem dX9_setTime_1 : decode cX9_setTime 1 = .ok (.iconst 0, 1) := by decide +kernel
theorem dX9_setTime_2 : decode cX9_setTime 2 = .ok (.ldc 153, 2) := by decide +kernel
theorem dX9_setTime_4 : decode cX9_setTime 4 = .ok (.invokestatic 40, 3) := by decide +kernel
theorem dX9_setTime_7 : decode cX9_setTime 7 = .ok (.aload_n 0, 1) := by decide +kernel
theorem dX9_setTime_8 : decode cX9_setTime 8 = .ok (.invokevirtual 154, 3) := by decide +kernel
theorem dX9_setTime_11 : decode cX9_setTime 11 = .ok (.aload_n 0, 1) := by decide +kernel
theorem dX9_setTime_12 : decode cX9_setTime 12 = .ok (.getfield 29, 3) := by decide +kernel
theorem dX9_setTime_15 : decode cX9_setTime 15 = .ok (.aload_n 0, 1) := by decide +kernel
theorem dX9_setTime_16 : decode cX9_setTime 16 = .ok (.getfield 19, 3) := by decide +kernel
theorem dX9_setTime_19 : decode cX9_setTime 19 = .ok (.invokevirtual 138, 3) := by decide +kernel
theorem dX9_setTime_22 : decode cX9_setTime 22 = .ok (.aload_n 0, 1) := by decide +kernel
theorem dX9_setTime_23 : decode cX9_setTime 23 = .ok (.getfield 19, 3) := by decide +kernel
theorem dX9_setTime_26 : decode cX9_setTime 26 = .ok (.getfield 94, 3) := by decide +kernel
theorem dX9_setTime_29 : decode cX9_setTime 29 = .ok (.getfield 144, 3) := by decide +kernel
theorem dX9_setTime_32 : decode cX9_setTime 32 = .ok (.istore_n 2, 1) := by decide +kernel
theorem dX9_setTime_33 : decode cX9_setTime 33 = .ok (.aload_n 0, 1) := by decide +kernel
theorem dX9_setTime_34 : decode cX9_setTime 34 = .ok (.getfield 19, 3) := by decide +kernel
theorem dX9_setTime_37 : decode cX9_setTime 37 = .ok (.getfield 94, 3) := by decide +kernel
theorem dX9_setTime_40 : decode cX9_setTime 40 = .ok (.iload_n 1, 1) := by decide +kernel
theorem dX9_setTime_41 : decode cX9_setTime 41 = .ok (.invokevirtual 157, 3) := by decide +kernel
theorem dX9_setTime_44 : decode cX9_setTime 44 = .ok (.iload_n 2, 1) := by decide +kernel
theorem dX9_setTime_45 : decode cX9_setTime 45 = .ok (.ireturn, 1) := by decide +kernel
set_option maxRecDepth 20000 in
theorem ggX9_correct_X9_needRange : GoodIn wsX9_correct wsX9_needRange := goodIn_ca (goodIn_r _ [8, 9, 10] (by decide +kernel) (by decide +kernel)) (goodIn_sub (fun _ h => List.mem_cons_of_mem _ (List.mem_append_left _ (List.mem_append_right _ h))) (by decide +kernel))

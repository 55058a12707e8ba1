theorem dX10_init_40 : decode cX10_init 40 = .ok (.newarray .int, 2) := by decide +kernel
theorem dX10_init_42 : decode cX10_init 42 = .ok (.putfield 22, 3) := by decide +kernel
theorem dX10_init_45 : decode cX10_init 45 = .ok (.aload_n 0, 1) := by decide +kernel
theorem dX10_init_46 : decode cX10_init 46 = .ok (.bipush 114, 2) := by decide +kernel
theorem dX10_init_48 : decode cX10_init 48 = .ok (.newarray .int, 2) := by decide +kernel
theorem dX10_init_50 : decode cX10_init 50 = .ok (.putfield 25, 3) := by decide +kernel
theorem dX10_init_53 : decode cX10_init 53 = .ok (.aload_n 0, 1) := by decide +kernel
theorem dX10_init_54 : decode cX10_init 54 = .ok (.iconst 2, 1) := by decide +kernel
theorem dX10_init_55 : decode cX10_init 55 = .ok (.newarray .boolean, 2) := by decide +kernel
theorem dX10_init_57 : decode cX10_init 57 = .ok (.putfield 28, 3) := by decide +kernel
theorem dX10_init_60 : decode cX10_init 60 = .ok (.aload_n 0, 1) := by decide +kernel
theorem dX10_init_61 : decode cX10_init 61 = .ok (.iconst 2, 1) := by decide +kernel
theorem dX10_init_62 : decode cX10_init 62 = .ok (.newarray .long, 2) := by decide +kernel
theorem dX10_init_64 : decode cX10_init 64 = .ok (.putfield 32, 3) := by decide +kernel
theorem dX10_init_67 : decode cX10_init 67 = .ok (.aload_n 0, 1) := by decide +kernel
theorem dX10_init_68 : decode cX10_init 68 = .ok (.iconst 2, 1) := by decide +kernel
theorem dX10_init_69 : decode cX10_init 69 = .ok (.newarray .long, 2) := by decide +kernel
theorem dX10_init_71 : decode cX10_init 71 = .ok (.putfield 36, 3) := by decide +kernel
theorem dX10_init_74 : decode cX10_init 74 = .ok (.aload_n 0, 1) := by decide +kernel
theorem dX10_init_75 : decode cX10_init 75 = .ok (.bipush 28, 2) := by decide +kernel
theorem dX10_init_77 : decode cX10_init 77 = .ok (.newarray .long, 2) := by decide +kernel
theorem dX10_init_79 : decode cX10_init 79 = .ok (.putfield 39, 3) := by decide +kernel
theorem dX10_init_82 : decode cX10_init 82 = .ok (.aload_n 0, 1) := by decide +kernel
theorem dX10_init_83 : decode cX10_init 83 = .ok (.iconst 4, 1) := by decide +kernel
theorem dX10_init_84 : decode cX10_init 84 = .ok (.newarray .long, 2) := by decide +kernel
theorem dX10_init_86 : decode cX10_init 86 = .ok (.putfield 42, 3) := by decide +kernel
theorem dX10_init_89 : decode cX10_init 89 = .ok (.aload_n 0, 1) := by decide +kernel
theorem dX10_init_90 : decode cX10_init 90 = .ok (.getfield 16, 3) := by decide +kernel
theorem dX10_init_93 : decode cX10_init 93 = .ok (.invokestatic 45, 3) := by decide +kernel
theorem dX10_init_96 : decode cX10_init 96 = .ok (.return_, 1) := by decide +kernel
theorem dX10_thrown_0 : decode cX10_thrown 0 = .ok (.aload_n 0, 1) := by decide +kernel
theorem dX10_thrown_1 : decode cX10_thrown 1 = .ok (.getfield 49, 3) := by decide +kernel
theorem dX10_thrown_4 : decode cX10_thrown 4 = .ok (.ireturn, 1) := by decide +kernel
theorem dX10_refused_0 : decode cX10_refused 0 = .ok (.aload_n 0, 1) := by decide +kernel
theorem dX10_refused_1 : decode cX10_refused 1 = .ok (.iload_n 1, 1) := by decide +kernel
theorem dX10_refused_2 : decode cX10_refused 2 = .ok (.putfield 49, 3) := by decide +kernel
theorem dX10_refused_5 : decode cX10_refused 5 = .ok (.iload_n 1, 1) := by decide +kernel
theorem dX10_refused_6 : decode cX10_refused 6 = .ok (.ifCond .le 7, 3) := by decide +kernel
theorem dX10_refused_9 : decode cX10_refused 9 = .ok (.iconst 1, 1) := by decide +kernel
theorem dX10_refused_10 : decode cX10_refused 10 = .ok (.goto 4, 3) := by decide +kernel
theorem dX10_refused_13 : decode cX10_refused 13 = .ok (.iconst 0, 1) := by decide +kernel
theorem dX10_refused_14 : decode cX10_refused 14 = .ok (.ireturn, 1) := by decide +kernel
theorem dX10_in_0 : decode cX10_in 0 = .ok (.lload_n 0, 1) := by decide +kernel
theorem dX10_in_1 : decode cX10_in 1 = .ok (.lload_n 2, 1) := by decide +kernel
theorem dX10_in_2 : decode cX10_in 2 = .ok (.lcmp, 1) := by decide +kernel
theorem dX10_in_3 : decode cX10_in 3 = .ok (.ifCond .lt 14, 3) := by decide +kernel
theorem dX10_in_6 : decode cX10_in 6 = .ok (.lload_n 0, 1) := by decide +kernel
theorem dX10_in_7 : decode cX10_in 7 = .ok (.lload 4, 2) := by decide +kernel
theorem dX10_in_9 : decode cX10_in 9 = .ok (.lcmp, 1) := by decide +kernel
theorem dX10_in_10 : decode cX10_in 10 = .ok (.ifCond .gt 7, 3) := by decide +kernel
theorem dX10_in_13 : decode cX10_in 13 = .ok (.iconst 1, 1) := by decide +kernel
theorem dX10_in_14 : decode cX10_in 14 = .ok (.goto 4, 3) := by decide +kernel
theorem dX10_in_17 : decode cX10_in 17 = .ok (.iconst 0, 1) := by decide +kernel
theorem dX10_in_18 : decode cX10_in 18 = .ok (.ireturn, 1) := by decide +kernel
theorem dX10_copyPage_0 : decode cX10_copyPage 0 = .ok (.iconst 0, 1) := by decide +kernel
theorem dX10_copyPage_1 : decode cX10_copyPage 1 = .ok (.istore 4, 2) := by decide +kernel
theorem dX10_copyPage_3 : decode cX10_copyPage 3 = .ok (.iload 4, 2) := by decide +kernel
theorem dX10_copyPage_5 : decode cX10_copyPage 5 = .ok (.bipush 57, 2) := by decide +kernel
theorem dX10_copyPage_7 : decode cX10_copyPage 7 = .ok (.if_icmp .ge 21, 3) := by decide +kernel
theorem dX10_copyPage_10 : decode cX10_copyPage 10 = .ok (.aload_n 2, 1) := by decide +kernel
theorem dX10_copyPage_11 : decode cX10_copyPage 11 = .ok (.iload_n 3, 1) := by decide +kernel
theorem dX10_copyPage_12 : decode cX10_copyPage 12 = .ok (.iload 4, 2) := by decide +kernel
theorem dX10_copyPage_14 : decode cX10_copyPage 14 = .ok (.iadd, 1) := by decide +kernel
theorem dX10_copyPage_15 : decode cX10_copyPage 15 = .ok (.aload_n 0, 1) := by decide +kernel
theorem dX10_copyPage_16 : decode cX10_copyPage 16 = .ok (.iload_n 1, 1) := by decide +kernel
theorem dX10_copyPage_17 : decode cX10_copyPage 17 = .ok (.iload 4, 2) := by decide +kernel
theorem dX10_copyPage_19 : decode cX10_copyPage 19 = .ok (.iadd, 1) := by decide +kernel
theorem dX10_copyPage_20 : decode cX10_copyPage 20 = .ok (.iaload, 1) := by decide +kernel
theorem dX10_copyPage_21 : decode cX10_copyPage 21 = .ok (.iastore, 1) := by decide +kernel
theorem dX10_copyPage_22 : decode cX10_copyPage 22 = .ok (.iinc 4 1, 3) := by decide +kernel
theorem dX10_copyPage_25 : decode cX10_copyPage 25 = .ok (.goto (-22), 3) := by decide +kernel
theorem dX10_copyPage_28 : decode cX10_copyPage 28 = .ok (.return_, 1) := by decide +kernel
theorem dX10_begin_0 : decode cX10_begin 0 = .ok (.iconst 0, 1) := by decide +kernel
theorem dX10_begin_1 : decode cX10_begin 1 = .ok (.istore_n 1, 1) := by decide +kernel
theorem dX10_begin_2 : decode cX10_begin 2 = .ok (.iload_n 1, 1) := by decide +kernel
theorem dX10_begin_3 : decode cX10_begin 3 = .ok (.bipush 57, 2) := by decide +kernel
theorem dX10_begin_5 : decode cX10_begin 5 = .ok (.if_icmp .ge 13, 3) := by decide +kernel
theorem dX10_begin_8 : decode cX10_begin 8 = .ok (.aload_n 0, 1) := by decide +kernel
theorem dX10_begin_9 : decode cX10_begin 9 = .ok (.iload_n 1, 1) := by decide +kernel
theorem dX10_begin_10 : decode cX10_begin 10 = .ok (.iconst 0, 1) := by decide +kernel
theorem dX10_begin_11 : decode cX10_begin 11 = .ok (.iastore, 1) := by decide +kernel
theorem dX10_begin_12 : decode cX10_begin 12 = .ok (.iinc 1 1, 3) := by decide +kernel
theorem dX10_begin_15 : decode cX10_begin 15 = .ok (.goto (-13), 3) := by decide +kernel
theorem dX10_begin_18 : decode cX10_begin 18 = .ok (.aload_n 0, 1) := by decide +kernel
theorem dX10_begin_19 : decode cX10_begin 19 = .ok (.iconst 3, 1) := by decide +kernel
theorem dX10_begin_20 : decode cX10_begin 20 = .ok (.bipush 100, 2) := by decide +kernel
theorem dX10_begin_22 : decode cX10_begin 22 = .ok (.iastore, 1) := by decide +kernel
theorem dX10_begin_23 : decode cX10_begin 23 = .ok (.aload_n 0, 1) := by decide +kernel
theorem dX10_begin_24 : decode cX10_begin 24 = .ok (.bipush 6, 2) := by decide +kernel
theorem dX10_begin_26 : decode cX10_begin 26 = .ok (.bipush 9, 2) := by decide +kernel
theorem dX10_begin_28 : decode cX10_begin 28 = .ok (.iastore, 1) := by decide +kernel
theorem dX10_begin_29 : decode cX10_begin 29 = .ok (.aload_n 0, 1) := by decide +kernel
theorem dX10_begin_30 : decode cX10_begin 30 = .ok (.bipush 7, 2) := by decide +kernel
theorem dX10_begin_32 : decode cX10_begin 32 = .ok (.sipush 1000, 3) := by decide +kernel
theorem dX10_begin_35 : decode cX10_begin 35 = .ok (.iastore, 1) := by decide +kernel
theorem dX10_begin_36 : decode cX10_begin 36 = .ok (.iconst 0, 1) := by decide +kernel
theorem dX10_begin_37 : decode cX10_begin 37 = .ok (.istore_n 1, 1) := by decide +kernel
theorem dX10_begin_38 : decode cX10_begin 38 = .ok (.iload_n 1, 1) := by decide +kernel
theorem dX10_begin_39 : decode cX10_begin 39 = .ok (.iconst 4, 1) := by decide +kernel
theorem dX10_begin_40 : decode cX10_begin 40 = .ok (.if_icmp .ge 19, 3) := by decide +kernel
theorem dX10_begin_43 : decode cX10_begin 43 = .ok (.aload_n 0, 1) := by decide +kernel
theorem dX10_begin_44 : decode cX10_begin 44 = .ok (.bipush 27, 2) := by decide +kernel
theorem dX10_begin_46 : decode cX10_begin 46 = .ok (.iconst 3, 1) := by decide +kernel
theorem dX10_begin_47 : decode cX10_begin 47 = .ok (.iload_n 1, 1) := by decide +kernel
theorem dX10_begin_48 : decode cX10_begin 48 = .ok (.imul, 1) := by decide +kernel
theorem dX10_begin_49 : decode cX10_begin 49 = .ok (.iadd, 1) := by decide +kernel
theorem dX10_begin_50 : decode cX10_begin 50 = .ok (.ldc 53, 2) := by decide +kernel
theorem dX10_begin_52 : decode cX10_begin 52 = .ok (.iastore, 1) := by decide +kernel
theorem dX10_begin_53 : decode cX10_begin 53 = .ok (.iinc 1 1, 3) := by decide +kernel
theorem dX10_begin_56 : decode cX10_begin 56 = .ok (.goto (-18), 3) := by decide +kernel
theorem dX10_begin_59 : decode cX10_begin 59 = .ok (.return_, 1) := by decide +kernel
set_option maxRecDepth 20000 in
theorem ggX10_copyNow_X10_copyPage : GoodIn wsX10_copyNow wsX10_copyPage := goodIn_r _ [8] (by decide +kernel) (by decide +kernel)
set_option maxRecDepth 20000 in
theorem gX10_copyNow_X10_copyPage : GoodIn wsX10_copyNow (va_wsS RX10 54 yX10_copyPage wsX10_copyPage) := goodIn_app (goodIn_of _ (by decide +kernel)) ggX10_copyNow_X10_copyPage
theorem dX10_copyNow_0 : decode cX10_copyNow 0 = .ok (.aload_n 0, 1) := by decide +kernel
theorem dX10_copyNow_1 : decode cX10_copyNow 1 = .ok (.getfield 16, 3) := by decide +kernel
theorem dX10_copyNow_4 : decode cX10_copyNow 4 = .ok (.iconst 0, 1) := by decide +kernel
theorem dX10_copyNow_5 : decode cX10_copyNow 5 = .ok (.aload_n 0, 1) := by decide +kernel
theorem dX10_copyNow_6 : decode cX10_copyNow 6 = .ok (.getfield 19, 3) := by decide +kernel
theorem dX10_copyNow_9 : decode cX10_copyNow 9 = .ok (.iconst 0, 1) := by decide +kernel
theorem dX10_copyNow_10 : decode cX10_copyNow 10 = .ok (.invokestatic 54, 3) := by decide +kernel
theorem dX10_copyNow_13 : decode cX10_copyNow 13 = .ok (.aload_n 0, 1) := by decide +kernel
theorem dX10_copyNow_14 : decode cX10_copyNow 14 = .ok (.getfield 36, 3) := by decide +kernel
theorem dX10_copyNow_17 : decode cX10_copyNow 17 = .ok (.iconst 0, 1) := by decide +kernel
theorem dX10_copyNow_18 : decode cX10_copyNow 18 = .ok (.aload_n 0, 1) := by decide +kernel
theorem dX10_copyNow_19 : decode cX10_copyNow 19 = .ok (.getfield 32, 3) := by decide +kernel
theorem dX10_copyNow_22 : decode cX10_copyNow 22 = .ok (.iconst 0, 1) := by decide +kernel
theorem dX10_copyNow_23 : decode cX10_copyNow 23 = .ok (.laload, 1) := by decide +kernel
theorem dX10_copyNow_24 : decode cX10_copyNow 24 = .ok (.lastore, 1) := by decide +kernel
theorem dX10_copyNow_25 : decode cX10_copyNow 25 = .ok (.aload_n 0, 1) := by decide +kernel
theorem dX10_copyNow_26 : decode cX10_copyNow 26 = .ok (.getfield 36, 3) := by decide +kernel
theorem dX10_copyNow_29 : decode cX10_copyNow 29 = .ok (.iconst 1, 1) := by decide +kernel
theorem dX10_copyNow_30 : decode cX10_copyNow 30 = .ok (.aload_n 0, 1) := by decide +kernel
theorem dX10_copyNow_31 : decode cX10_copyNow 31 = .ok (.getfield 32, 3) := by decide +kernel
theorem dX10_copyNow_34 : decode cX10_copyNow 34 = .ok (.iconst 1, 1) := by decide +kernel
theorem dX10_copyNow_35 : decode cX10_copyNow 35 = .ok (.laload, 1) := by decide +kernel
theorem dX10_copyNow_36 : decode cX10_copyNow 36 = .ok (.lastore, 1) := by decide +kernel
theorem dX10_copyNow_37 : decode cX10_copyNow 37 = .ok (.return_, 1) := by decide +kernel
theorem dX10_domainOf_0 : decode cX10_domainOf 0 = .ok (.aload_n 0, 1) := by decide +kernel
theorem dX10_domainOf_1 : decode cX10_domainOf 1 = .ok (.bipush 6, 2) := by decide +kernel
theorem dX10_domainOf_3 : decode cX10_domainOf 3 = .ok (.iaload, 1) := by decide +kernel
theorem dX10_domainOf_4 : decode cX10_domainOf 4 = .ok (.bipush 6, 2) := by decide +kernel
theorem dX10_domainOf_6 : decode cX10_domainOf 6 = .ok (.if_icmp .lt 7, 3) := by decide +kernel
theorem dX10_domainOf_9 : decode cX10_domainOf 9 = .ok (.iconst 0, 1) := by decide +kernel
theorem dX10_domainOf_10 : decode cX10_domainOf 10 = .ok (.goto 27, 3) := by decide +kernel
theorem dX10_domainOf_13 : decode cX10_domainOf 13 = .ok (.aload_n 0, 1) := by decide +kernel
theorem dX10_domainOf_14 : decode cX10_domainOf 14 = .ok (.bipush 7, 2) := by decide +kernel
theorem dX10_domainOf_16 : decode cX10_domainOf 16 = .ok (.iaload, 1) := by decide +kernel
theorem dX10_domainOf_17 : decode cX10_domainOf 17 = .ok (.ifCond .ne 7, 3) := by decide +kernel
theorem dX10_domainOf_20 : decode cX10_domainOf 20 = .ok (.iconst 3, 1) := by decide +kernel
theorem dX10_domainOf_21 : decode cX10_domainOf 21 = .ok (.goto 16, 3) := by decide +kernel
theorem dX10_domainOf_24 : decode cX10_domainOf 24 = .ok (.aload_n 0, 1) := by decide +kernel
theorem dX10_domainOf_25 : decode cX10_domainOf 25 = .ok (.bipush 6, 2) := by decide +kernel
theorem dX10_domainOf_27 : decode cX10_domainOf 27 = .ok (.iaload, 1) := by decide +kernel
theorem dX10_domainOf_28 : decode cX10_domainOf 28 = .ok (.iconst 3, 1) := by decide +kernel
theorem dX10_domainOf_29 : decode cX10_domainOf 29 = .ok (.if_icmp .lt 7, 3) := by decide +kernel
theorem dX10_domainOf_32 : decode cX10_domainOf 32 = .ok (.iconst 1, 1) := by decide +kernel
theorem dX10_domainOf_33 : decode cX10_domainOf 33 = .ok (.goto 4, 3) := by decide +kernel
theorem dX10_domainOf_36 : decode cX10_domainOf 36 = .ok (.iconst 2, 1) := by decide +kernel
theorem dX10_domainOf_37 : decode cX10_domainOf 37 = .ok (.ireturn, 1) := by decide +kernel
theorem dX10_offsetOf_0 : decode cX10_offsetOf 0 = .ok (.aload_n 0, 1) := by decide +kernel
theorem dX10_offsetOf_1 : decode cX10_offsetOf 1 = .ok (.iconst 1, 1) := by decide +kernel
theorem dX10_offsetOf_2 : decode cX10_offsetOf 2 = .ok (.iaload, 1) := by decide +kernel
theorem dX10_offsetOf_3 : decode cX10_offsetOf 3 = .ok (.bipush 60, 2) := by decide +kernel
theorem dX10_offsetOf_5 : decode cX10_offsetOf 5 = .ok (.aload_n 0, 1) := by decide +kernel
theorem dX10_offsetOf_6 : decode cX10_offsetOf 6 = .ok (.iconst 0, 1) := by decide +kernel
theorem dX10_offsetOf_7 : decode cX10_offsetOf 7 = .ok (.iaload, 1) := by decide +kernel
theorem dX10_offsetOf_8 : decode cX10_offsetOf 8 = .ok (.imul, 1) := by decide +kernel
theorem dX10_offsetOf_9 : decode cX10_offsetOf 9 = .ok (.isub, 1) := by decide +kernel
theorem dX10_offsetOf_10 : decode cX10_offsetOf 10 = .ok (.ireturn, 1) := by decide +kernel
theorem dX10_ring_0 : decode cX10_ring 0 = .ok (.aload_n 0, 1) := by decide +kernel
theorem dX10_ring_1 : decode cX10_ring 1 = .ok (.bipush 27, 2) := by decide +kernel
theorem dX10_ring_3 : decode cX10_ring 3 = .ok (.iconst 3, 1) := by decide +kernel
theorem dX10_ring_4 : decode cX10_ring 4 = .ok (.iload_n 1, 1) := by decide +kernel
theorem dX10_ring_5 : decode cX10_ring 5 = .ok (.imul, 1) := by decide +kernel
theorem dX10_ring_6 : decode cX10_ring 6 = .ok (.iadd, 1) := by decide +kernel
theorem dX10_ring_7 : decode cX10_ring 7 = .ok (.iconst 1, 1) := by decide +kernel
theorem dX10_ring_8 : decode cX10_ring 8 = .ok (.iadd, 1) := by decide +kernel
theorem dX10_ring_9 : decode cX10_ring 9 = .ok (.iconst 0, 1) := by decide +kernel
theorem dX10_ring_10 : decode cX10_ring 10 = .ok (.iastore, 1) := by decide +kernel
theorem dX10_ring_11 : decode cX10_ring 11 = .ok (.aload_n 0, 1) := by decide +kernel
theorem dX10_ring_12 : decode cX10_ring 12 = .ok (.bipush 27, 2) := by decide +kernel
theorem dX10_ring_14 : decode cX10_ring 14 = .ok (.iconst 3, 1) := by decide +kernel
theorem dX10_ring_15 : decode cX10_ring 15 = .ok (.iload_n 1, 1) := by decide +kernel
theorem dX10_ring_16 : decode cX10_ring 16 = .ok (.imul, 1) := by decide +kernel
theorem dX10_ring_17 : decode cX10_ring 17 = .ok (.iadd, 1) := by decide +kernel
theorem dX10_ring_18 : decode cX10_ring 18 = .ok (.iconst 2, 1) := by decide +kernel
theorem dX10_ring_19 : decode cX10_ring 19 = .ok (.iadd, 1) := by decide +kernel
theorem dX10_ring_20 : decode cX10_ring 20 = .ok (.dup2, 1) := by decide +kernel
theorem dX10_ring_21 : decode cX10_ring 21 = .ok (.iaload, 1) := by decide +kernel
theorem dX10_ring_22 : decode cX10_ring 22 = .ok (.iconst 1, 1) := by decide +kernel
theorem dX10_ring_23 : decode cX10_ring 23 = .ok (.iadd, 1) := by decide +kernel
theorem dX10_ring_24 : decode cX10_ring 24 = .ok (.iastore, 1) := by decide +kernel
theorem dX10_ring_25 : decode cX10_ring 25 = .ok (.aload_n 0, 1) := by decide +kernel
theorem dX10_ring_26 : decode cX10_ring 26 = .ok (.bipush 9, 2) := by decide +kernel
theorem dX10_ring_28 : decode cX10_ring 28 = .ok (.dup2, 1) := by decide +kernel
theorem dX10_ring_29 : decode cX10_ring 29 = .ok (.iaload, 1) := by decide +kernel
theorem dX10_ring_30 : decode cX10_ring 30 = .ok (.iconst 1, 1) := by decide +kernel
theorem dX10_ring_31 : decode cX10_ring 31 = .ok (.iadd, 1) := by decide +kernel
theorem dX10_ring_32 : decode cX10_ring 32 = .ok (.iastore, 1) := by decide +kernel
theorem dX10_ring_33 : decode cX10_ring 33 = .ok (.return_, 1) := by decide +kernel
theorem dX10_lose_0 : decode cX10_lose 0 = .ok (.aload_n 0, 1) := by decide +kernel
theorem dX10_lose_1 : decode cX10_lose 1 = .ok (.iconst 1, 1) := by decide +kernel
theorem dX10_lose_2 : decode cX10_lose 2 = .ok (.iconst 0, 1) := by decide +kernel
theorem dX10_lose_3 : decode cX10_lose 3 = .ok (.iastore, 1) := by decide +kernel
theorem dX10_lose_4 : decode cX10_lose 4 = .ok (.aload_n 0, 1) := by decide +kernel
theorem dX10_lose_5 : decode cX10_lose 5 = .ok (.iconst 2, 1) := by decide +kernel
theorem dX10_lose_6 : decode cX10_lose 6 = .ok (.iconst 0, 1) := by decide +kernel
theorem dX10_lose_7 : decode cX10_lose 7 = .ok (.iastore, 1) := by decide +kernel
theorem dX10_lose_8 : decode cX10_lose 8 = .ok (.aload_n 0, 1) := by decide +kernel
theorem dX10_lose_9 : decode cX10_lose 9 = .ok (.iconst 5, 1) := by decide +kernel
theorem dX10_lose_10 : decode cX10_lose 10 = .ok (.iconst 0, 1) := by decide +kernel
theorem dX10_lose_11 : decode cX10_lose 11 = .ok (.iastore, 1) := by decide +kernel
theorem dX10_lose_12 : decode cX10_lose 12 = .ok (.aload_n 0, 1) := by decide +kernel
theorem dX10_lose_13 : decode cX10_lose 13 = .ok (.bipush 11, 2) := by decide +kernel
theorem dX10_lose_15 : decode cX10_lose 15 = .ok (.iconst 0, 1) := by decide +kernel
theorem dX10_lose_16 : decode cX10_lose 16 = .ok (.iastore, 1) := by decide +kernel
theorem dX10_lose_17 : decode cX10_lose 17 = .ok (.aload_n 0, 1) := by decide +kernel
theorem dX10_lose_18 : decode cX10_lose 18 = .ok (.bipush 10, 2) := by decide +kernel
theorem dX10_lose_20 : decode cX10_lose 20 = .ok (.dup2, 1) := by decide +kernel
theorem dX10_lose_21 : decode cX10_lose 21 = .ok (.iaload, 1) := by decide +kernel
theorem dX10_lose_22 : decode cX10_lose 22 = .ok (.iconst 1, 1) := by decide +kernel
theorem dX10_lose_23 : decode cX10_lose 23 = .ok (.iadd, 1) := by decide +kernel
theorem dX10_lose_24 : decode cX10_lose 24 = .ok (.iastore, 1) := by decide +kernel
theorem dX10_lose_25 : decode cX10_lose 25 = .ok (.iconst 0, 1) := by decide +kernel
theorem dX10_lose_26 : decode cX10_lose 26 = .ok (.istore_n 1, 1) := by decide +kernel
theorem dX10_lose_27 : decode cX10_lose 27 = .ok (.iload_n 1, 1) := by decide +kernel
theorem dX10_lose_28 : decode cX10_lose 28 = .ok (.bipush 8, 2) := by decide +kernel
theorem dX10_lose_30 : decode cX10_lose 30 = .ok (.if_icmp .ge 16, 3) := by decide +kernel
theorem dX10_lose_33 : decode cX10_lose 33 = .ok (.aload_n 0, 1) := by decide +kernel
theorem dX10_lose_34 : decode cX10_lose 34 = .ok (.bipush 16, 2) := by decide +kernel
theorem dX10_lose_36 : decode cX10_lose 36 = .ok (.iload_n 1, 1) := by decide +kernel
theorem dX10_lose_37 : decode cX10_lose 37 = .ok (.iadd, 1) := by decide +kernel
theorem dX10_lose_38 : decode cX10_lose 38 = .ok (.iconst 0, 1) := by decide +kernel
theorem dX10_lose_39 : decode cX10_lose 39 = .ok (.iastore, 1) := by decide +kernel
theorem dX10_lose_40 : decode cX10_lose 40 = .ok (.iinc 1 1, 3) := by decide +kernel
theorem dX10_lose_43 : decode cX10_lose 43 = .ok (.goto (-16), 3) := by decide +kernel
theorem dX10_lose_46 : decode cX10_lose 46 = .ok (.iconst 0, 1) := by decide +kernel
theorem dX10_lose_47 : decode cX10_lose 47 = .ok (.istore_n 1, 1) := by decide +kernel
theorem dX10_lose_48 : decode cX10_lose 48 = .ok (.iload_n 1, 1) := by decide +kernel
theorem dX10_lose_49 : decode cX10_lose 49 = .ok (.iconst 4, 1) := by decide +kernel
theorem dX10_lose_50 : decode cX10_lose 50 = .ok (.if_icmp .ge 20, 3) := by decide +kernel
theorem dX10_lose_53 : decode cX10_lose 53 = .ok (.aload_n 0, 1) := by decide +kernel
theorem dX10_lose_54 : decode cX10_lose 54 = .ok (.bipush 27, 2) := by decide +kernel
theorem dX10_lose_56 : decode cX10_lose 56 = .ok (.iconst 3, 1) := by decide +kernel
theorem dX10_lose_57 : decode cX10_lose 57 = .ok (.iload_n 1, 1) := by decide +kernel
theorem dX10_lose_58 : decode cX10_lose 58 = .ok (.imul, 1) := by decide +kernel
theorem dX10_lose_59 : decode cX10_lose 59 = .ok (.iadd, 1) := by decide +kernel
theorem dX10_lose_60 : decode cX10_lose 60 = .ok (.iconst 1, 1) := by decide +kernel
theorem dX10_lose_61 : decode cX10_lose 61 = .ok (.iadd, 1) := by decide +kernel
theorem dX10_lose_62 : decode cX10_lose 62 = .ok (.iconst 0, 1) := by decide +kernel
theorem dX10_lose_63 : decode cX10_lose 63 = .ok (.iastore, 1) := by decide +kernel
theorem dX10_lose_64 : decode cX10_lose 64 = .ok (.iinc 1 1, 3) := by decide +kernel
theorem dX10_lose_67 : decode cX10_lose 67 = .ok (.goto (-19), 3) := by decide +kernel
theorem dX10_lose_70 : decode cX10_lose 70 = .ok (.return_, 1) := by decide +kernel
set_option maxRecDepth 20000 in
theorem ggX10_change_X10_domainOf : GoodIn wsX10_change wsX10_domainOf := goodIn_r _ [4] (by decide +kernel) (by decide +kernel)
set_option maxRecDepth 20000 in
theorem gX10_change_X10_domainOf : GoodIn wsX10_change (va_wsS RX10 58 yX10_domainOf wsX10_domainOf) := goodIn_app (goodIn_of _ (by decide +kernel)) ggX10_change_X10_domainOf
set_option maxRecDepth 20000 in
theorem ggX10_change_X10_lose : GoodIn wsX10_change wsX10_lose := goodIn_r _ [7] (by decide +kernel) (by decide +kernel)
set_option maxRecDepth 20000 in
theorem gX10_change_X10_lose : GoodIn wsX10_change (va_wsS RX10 62 yX10_lose wsX10_lose) := goodIn_app (goodIn_of _ (by decide +kernel)) ggX10_change_X10_lose
set_option maxRecDepth 20000 in
theorem ggX10_change_X10_ring : GoodIn wsX10_change wsX10_ring := goodIn_r _ [10] (by decide +kernel) (by decide +kernel)
set_option maxRecDepth 20000 in
theorem gX10_change_X10_ring : GoodIn wsX10_change (va_wsS RX10 65 yX10_ring wsX10_ring) := goodIn_app (goodIn_of _ (by decide +kernel)) ggX10_change_X10_ring
theorem dX10_change_0 : decode cX10_change 0 = .ok (.aload_n 0, 1) := by decide +kernel
theorem dX10_change_1 : decode cX10_change 1 = .ok (.invokestatic 58, 3) := by decide +kernel
theorem dX10_change_4 : decode cX10_change 4 = .ok (.istore_n 2, 1) := by decide +kernel
theorem dX10_change_5 : decode cX10_change 5 = .ok (.iload_n 2, 1) := by decide +kernel
theorem dX10_change_6 : decode cX10_change 6 = .ok (.iload_n 1, 1) := by decide +kernel
theorem dX10_change_7 : decode cX10_change 7 = .ok (.if_icmp .ne 4, 3) := by decide +kernel
theorem dX10_change_10 : decode cX10_change 10 = .ok (.return_, 1) := by decide +kernel
theorem dX10_change_11 : decode cX10_change 11 = .ok (.iload_n 2, 1) := by decide +kernel
theorem dX10_change_12 : decode cX10_change 12 = .ok (.iconst 3, 1) := by decide +kernel
theorem dX10_change_13 : decode cX10_change 13 = .ok (.if_icmp .ne 7, 3) := by decide +kernel
theorem dX10_change_16 : decode cX10_change 16 = .ok (.aload_n 0, 1) := by decide +kernel
theorem dX10_change_17 : decode cX10_change 17 = .ok (.invokestatic 62, 3) := by decide +kernel
theorem dX10_change_20 : decode cX10_change 20 = .ok (.iconst 0, 1) := by decide +kernel
theorem dX10_change_21 : decode cX10_change 21 = .ok (.istore_n 3, 1) := by decide +kernel
theorem dX10_change_22 : decode cX10_change 22 = .ok (.iload_n 3, 1) := by decide +kernel
theorem dX10_change_23 : decode cX10_change 23 = .ok (.iconst 4, 1) := by decide +kernel
theorem dX10_change_24 : decode cX10_change 24 = .ok (.if_icmp .ge 32, 3) := by decide +kernel
theorem dX10_change_27 : decode cX10_change 27 = .ok (.iload_n 2, 1) := by decide +kernel
theorem dX10_change_28 : decode cX10_change 28 = .ok (.ifCond .ne 28, 3) := by decide +kernel
theorem dX10_change_31 : decode cX10_change 31 = .ok (.aload_n 0, 1) := by decide +kernel
theorem dX10_change_32 : decode cX10_change 32 = .ok (.bipush 27, 2) := by decide +kernel
theorem dX10_change_34 : decode cX10_change 34 = .ok (.iconst 3, 1) := by decide +kernel
theorem dX10_change_35 : decode cX10_change 35 = .ok (.iload_n 3, 1) := by decide +kernel
theorem dX10_change_36 : decode cX10_change 36 = .ok (.imul, 1) := by decide +kernel
theorem dX10_change_37 : decode cX10_change 37 = .ok (.iadd, 1) := by decide +kernel
theorem dX10_change_38 : decode cX10_change 38 = .ok (.iconst 1, 1) := by decide +kernel
theorem dX10_change_39 : decode cX10_change 39 = .ok (.iadd, 1) := by decide +kernel
theorem dX10_change_40 : decode cX10_change 40 = .ok (.iaload, 1) := by decide +kernel
theorem dX10_change_41 : decode cX10_change 41 = .ok (.iconst 1, 1) := by decide +kernel
theorem dX10_change_42 : decode cX10_change 42 = .ok (.if_icmp .ne 8, 3) := by decide +kernel
theorem dX10_change_45 : decode cX10_change 45 = .ok (.aload_n 0, 1) := by decide +kernel
theorem dX10_change_46 : decode cX10_change 46 = .ok (.iload_n 3, 1) := by decide +kernel
theorem dX10_change_47 : decode cX10_change 47 = .ok (.invokestatic 65, 3) := by decide +kernel
theorem dX10_change_50 : decode cX10_change 50 = .ok (.iinc 3 1, 3) := by decide +kernel
theorem dX10_change_53 : decode cX10_change 53 = .ok (.goto (-31), 3) := by decide +kernel
theorem dX10_change_56 : decode cX10_change 56 = .ok (.return_, 1) := by decide +kernel
set_option maxRecDepth 20000 in
theorem ggX10_levelOn_X10_domainOf : GoodIn wsX10_levelOn wsX10_domainOf := goodIn_r _ [4] (by decide +kernel) (by decide +kernel)
set_option maxRecDepth 20000 in
theorem gX10_levelOn_X10_domainOf : GoodIn wsX10_levelOn (va_wsS RX10 58 yX10_domainOf wsX10_domainOf) := goodIn_app (goodIn_of _ (by decide +kernel)) ggX10_levelOn_X10_domainOf
set_option maxRecDepth 20000 in
theorem ggX10_levelOn_X10_change : GoodIn wsX10_levelOn wsX10_change := goodIn_r _ [7, 1, 2, 3, 4, 8, 9, 10, 11, 12, 13] (by decide +kernel) (by decide +kernel)
set_option maxRecDepth 20000 in
theorem gX10_levelOn_X10_change : GoodIn wsX10_levelOn (va_wsS RX10 69 yX10_change wsX10_change) := goodIn_app (goodIn_of _ (by decide +kernel)) ggX10_levelOn_X10_change
theorem dX10_levelOn_0 : decode cX10_levelOn 0 = .ok (.aload_n 0, 1) := by decide +kernel
theorem dX10_levelOn_1 : decode cX10_levelOn 1 = .ok (.invokestatic 58, 3) := by decide +kernel
theorem dX10_levelOn_4 : decode cX10_levelOn 4 = .ok (.istore_n 2, 1) := by decide +kernel
theorem dX10_levelOn_5 : decode cX10_levelOn 5 = .ok (.aload_n 0, 1) := by decide +kernel
theorem dX10_levelOn_6 : decode cX10_levelOn 6 = .ok (.bipush 6, 2) := by decide +kernel
theorem dX10_levelOn_8 : decode cX10_levelOn 8 = .ok (.iload_n 1, 1) := by decide +kernel
theorem dX10_levelOn_9 : decode cX10_levelOn 9 = .ok (.iastore, 1) := by decide +kernel
theorem dX10_levelOn_10 : decode cX10_levelOn 10 = .ok (.aload_n 0, 1) := by decide +kernel
theorem dX10_levelOn_11 : decode cX10_levelOn 11 = .ok (.iload_n 2, 1) := by decide +kernel
theorem dX10_levelOn_12 : decode cX10_levelOn 12 = .ok (.invokestatic 69, 3) := by decide +kernel
theorem dX10_levelOn_15 : decode cX10_levelOn 15 = .ok (.return_, 1) := by decide +kernel
set_option maxRecDepth 20000 in
theorem ggX10_chargeOn_X10_domainOf : GoodIn wsX10_chargeOn wsX10_domainOf := goodIn_r _ [4] (by decide +kernel) (by decide +kernel)
set_option maxRecDepth 20000 in
theorem gX10_chargeOn_X10_domainOf : GoodIn wsX10_chargeOn (va_wsS RX10 58 yX10_domainOf wsX10_domainOf) := goodIn_app (goodIn_of _ (by decide +kernel)) ggX10_chargeOn_X10_domainOf
set_option maxRecDepth 20000 in
theorem ggX10_chargeOn_X10_change : GoodIn wsX10_chargeOn wsX10_change := goodIn_r _ [7, 1, 2, 3, 4, 8, 9, 10, 11, 12, 13] (by decide +kernel) (by decide +kernel)
set_option maxRecDepth 20000 in
theorem gX10_chargeOn_X10_change : GoodIn wsX10_chargeOn (va_wsS RX10 69 yX10_change wsX10_change) := goodIn_app (goodIn_of _ (by decide +kernel)) ggX10_chargeOn_X10_change
theorem dX10_chargeOn_0 : decode cX10_chargeOn 0 = .ok (.aload_n 0, 1) := by decide +kernel
theorem dX10_chargeOn_1 : decode cX10_chargeOn 1 = .ok (.invokestatic 58, 3) := by decide +kernel
theorem dX10_chargeOn_4 : decode cX10_chargeOn 4 = .ok (.istore_n 2, 1) := by decide +kernel
theorem dX10_chargeOn_5 : decode cX10_chargeOn 5 = .ok (.aload_n 0, 1) := by decide +kernel
theorem dX10_chargeOn_6 : decode cX10_chargeOn 6 = .ok (.bipush 7, 2) := by decide +kernel
theorem dX10_chargeOn_8 : decode cX10_chargeOn 8 = .ok (.iload_n 1, 1) := by decide +kernel
theorem dX10_chargeOn_9 : decode cX10_chargeOn 9 = .ok (.iastore, 1) := by decide +kernel
theorem dX10_chargeOn_10 : decode cX10_chargeOn 10 = .ok (.aload_n 0, 1) := by decide +kernel
theorem dX10_chargeOn_11 : decode cX10_chargeOn 11 = .ok (.iload_n 2, 1) := by decide +kernel
theorem dX10_chargeOn_12 : decode cX10_chargeOn 12 = .ok (.invokestatic 69, 3) := by decide +kernel
theorem dX10_chargeOn_15 : decode cX10_chargeOn 15 = .ok (.return_, 1) := by decide +kernel
theorem dX10_isDue_0 : decode cX10_isDue 0 = .ok (.aload_n 0, 1) := by decide +kernel
theorem dX10_isDue_1 : decode cX10_isDue 1 = .ok (.bipush 27, 2) := by decide +kernel
theorem dX10_isDue_3 : decode cX10_isDue 3 = .ok (.iconst 3, 1) := by decide +kernel
theorem dX10_isDue_4 : decode cX10_isDue 4 = .ok (.iload_n 1, 1) := by decide +kernel
theorem dX10_isDue_5 : decode cX10_isDue 5 = .ok (.imul, 1) := by decide +kernel
theorem dX10_isDue_6 : decode cX10_isDue 6 = .ok (.iadd, 1) := by decide +kernel
theorem dX10_isDue_7 : decode cX10_isDue 7 = .ok (.iaload, 1) := by decide +kernel
theorem dX10_isDue_8 : decode cX10_isDue 8 = .ok (.istore 4, 2) := by decide +kernel
theorem dX10_isDue_10 : decode cX10_isDue 10 = .ok (.iconst 0, 1) := by decide +kernel
theorem dX10_isDue_11 : decode cX10_isDue 11 = .ok (.istore 5, 2) := by decide +kernel
theorem dX10_isDue_13 : decode cX10_isDue 13 = .ok (.iload_n 2, 1) := by decide +kernel
theorem dX10_isDue_14 : decode cX10_isDue 14 = .ok (.iconst 1, 1) := by decide +kernel
theorem dX10_isDue_15 : decode cX10_isDue 15 = .ok (.iadd, 1) := by decide +kernel
theorem dX10_isDue_16 : decode cX10_isDue 16 = .ok (.istore 6, 2) := by decide +kernel
theorem dX10_isDue_18 : decode cX10_isDue 18 = .ok (.iload 6, 2) := by decide +kernel
theorem dX10_isDue_20 : decode cX10_isDue 20 = .ok (.iload_n 3, 1) := by decide +kernel
theorem dX10_isDue_21 : decode cX10_isDue 21 = .ok (.if_icmp .gt 32, 3) := by decide +kernel
theorem dX10_isDue_24 : decode cX10_isDue 24 = .ok (.iload 5, 2) := by decide +kernel
theorem dX10_isDue_26 : decode cX10_isDue 26 = .ok (.ifCond .ne 14, 3) := by decide +kernel
theorem dX10_isDue_29 : decode cX10_isDue 29 = .ok (.iload 6, 2) := by decide +kernel
theorem dX10_isDue_31 : decode cX10_isDue 31 = .ok (.sipush 1440, 3) := by decide +kernel
theorem dX10_isDue_34 : decode cX10_isDue 34 = .ok (.irem, 1) := by decide +kernel
theorem dX10_isDue_35 : decode cX10_isDue 35 = .ok (.iload 4, 2) := by decide +kernel
theorem dX10_isDue_37 : decode cX10_isDue 37 = .ok (.if_icmp .ne 7, 3) := by decide +kernel
theorem dX10_isDue_40 : decode cX10_isDue 40 = .ok (.iconst 1, 1) := by decide +kernel
theorem dX10_isDue_41 : decode cX10_isDue 41 = .ok (.goto 4, 3) := by decide +kernel
theorem dX10_isDue_44 : decode cX10_isDue 44 = .ok (.iconst 0, 1) := by decide +kernel
theorem dX10_isDue_45 : decode cX10_isDue 45 = .ok (.istore 5, 2) := by decide +kernel
theorem dX10_isDue_47 : decode cX10_isDue 47 = .ok (.iinc 6 1, 3) := by decide +kernel
theorem dX10_isDue_50 : decode cX10_isDue 50 = .ok (.goto (-32), 3) := by decide +kernel
theorem dX10_isDue_53 : decode cX10_isDue 53 = .ok (.iload 5, 2) := by decide +kernel
theorem dX10_isDue_55 : decode cX10_isDue 55 = .ok (.ireturn, 1) := by decide +kernel
theorem dX10_clockOn_0 : decode cX10_clockOn 0 = .ok (.aload_n 0, 1) := by decide +kernel
theorem dX10_clockOn_1 : decode cX10_clockOn 1 = .ok (.iconst 3, 1) := by decide +kernel
theorem dX10_clockOn_2 : decode cX10_clockOn 2 = .ok (.iaload, 1) := by decide +kernel
theorem dX10_clockOn_3 : decode cX10_clockOn 3 = .ok (.aload_n 0, 1) := by decide +kernel
theorem dX10_clockOn_4 : decode cX10_clockOn 4 = .ok (.iconst 4, 1) := by decide +kernel
theorem dX10_clockOn_5 : decode cX10_clockOn 5 = .ok (.iaload, 1) := by decide +kernel
theorem dX10_clockOn_6 : decode cX10_clockOn 6 = .ok (.isub, 1) := by decide +kernel
theorem dX10_clockOn_7 : decode cX10_clockOn 7 = .ok (.bipush 60, 2) := by decide +kernel
theorem dX10_clockOn_9 : decode cX10_clockOn 9 = .ok (.imul, 1) := by decide +kernel
theorem dX10_clockOn_10 : decode cX10_clockOn 10 = .ok (.istore_n 2, 1) := by decide +kernel
theorem dX10_clockOn_11 : decode cX10_clockOn 11 = .ok (.aload_n 0, 1) := by decide +kernel
theorem dX10_clockOn_12 : decode cX10_clockOn 12 = .ok (.iconst 1, 1) := by decide +kernel
theorem dX10_clockOn_13 : decode cX10_clockOn 13 = .ok (.dup2, 1) := by decide +kernel
theorem dX10_clockOn_14 : decode cX10_clockOn 14 = .ok (.iaload, 1) := by decide +kernel
theorem dX10_clockOn_15 : decode cX10_clockOn 15 = .ok (.bipush 60, 2) := by decide +kernel
theorem dX10_clockOn_17 : decode cX10_clockOn 17 = .ok (.iadd, 1) := by decide +kernel
theorem dX10_clockOn_18 : decode cX10_clockOn 18 = .ok (.iastore, 1) := by decide +kernel
theorem dX10_clockOn_19 : decode cX10_clockOn 19 = .ok (.aload_n 0, 1) := by decide +kernel
theorem dX10_clockOn_20 : decode cX10_clockOn 20 = .ok (.iconst 2, 1) := by decide +kernel
theorem dX10_clockOn_21 : decode cX10_clockOn 21 = .ok (.dup2, 1) := by decide +kernel
theorem dX10_clockOn_22 : decode cX10_clockOn 22 = .ok (.iaload, 1) := by decide +kernel
theorem dX10_clockOn_23 : decode cX10_clockOn 23 = .ok (.iload_n 2, 1) := by decide +kernel
theorem dX10_clockOn_24 : decode cX10_clockOn 24 = .ok (.iadd, 1) := by decide +kernel
theorem dX10_clockOn_25 : decode cX10_clockOn 25 = .ok (.iastore, 1) := by decide +kernel
theorem dX10_clockOn_26 : decode cX10_clockOn 26 = .ok (.aload_n 1, 1) := by decide +kernel
theorem dX10_clockOn_27 : decode cX10_clockOn 27 = .ok (.iconst 0, 1) := by decide +kernel
theorem dX10_clockOn_28 : decode cX10_clockOn 28 = .ok (.dup2, 1) := by decide +kernel
theorem dX10_clockOn_29 : decode cX10_clockOn 29 = .ok (.laload, 1) := by decide +kernel
theorem dX10_clockOn_30 : decode cX10_clockOn 30 = .ok (.aload_n 0, 1) := by decide +kernel
theorem dX10_clockOn_31 : decode cX10_clockOn 31 = .ok (.iconst 4, 1) := by decide +kernel
theorem dX10_clockOn_32 : decode cX10_clockOn 32 = .ok (.iaload, 1) := by decide +kernel
theorem dX10_clockOn_33 : decode cX10_clockOn 33 = .ok (.bipush 60, 2) := by decide +kernel
theorem dX10_clockOn_35 : decode cX10_clockOn 35 = .ok (.imul, 1) := by decide +kernel
theorem dX10_clockOn_36 : decode cX10_clockOn 36 = .ok (.i2l, 1) := by decide +kernel
theorem dX10_clockOn_37 : decode cX10_clockOn 37 = .ok (.ladd, 1) := by decide +kernel
theorem dX10_clockOn_38 : decode cX10_clockOn 38 = .ok (.lastore, 1) := by decide +kernel
theorem dX10_clockOn_39 : decode cX10_clockOn 39 = .ok (.aload_n 1, 1) := by decide +kernel
theorem dX10_clockOn_40 : decode cX10_clockOn 40 = .ok (.iconst 1, 1) := by decide +kernel
theorem dX10_clockOn_41 : decode cX10_clockOn 41 = .ok (.dup2, 1) := by decide +kernel
theorem dX10_clockOn_42 : decode cX10_clockOn 42 = .ok (.laload, 1) := by decide +kernel
theorem dX10_clockOn_43 : decode cX10_clockOn 43 = .ok (.iload_n 2, 1) := by decide +kernel
theorem dX10_clockOn_44 : decode cX10_clockOn 44 = .ok (.i2l, 1) := by decide +kernel
theorem dX10_clockOn_45 : decode cX10_clockOn 45 = .ok (.ladd, 1) := by decide +kernel
theorem dX10_clockOn_46 : decode cX10_clockOn 46 = .ok (.lastore, 1) := by decide +kernel
theorem dX10_clockOn_47 : decode cX10_clockOn 47 = .ok (.aload_n 0, 1) := by decide +kernel
theorem dX10_clockOn_48 : decode cX10_clockOn 48 = .ok (.iconst 2, 1) := by decide +kernel
theorem dX10_clockOn_49 : decode cX10_clockOn 49 = .ok (.iaload, 1) := by decide +kernel
theorem dX10_clockOn_50 : decode cX10_clockOn 50 = .ok (.ldc 72, 2) := by decide +kernel
theorem dX10_clockOn_52 : decode cX10_clockOn 52 = .ok (.if_icmp .lt 21, 3) := by decide +kernel
theorem dX10_clockOn_55 : decode cX10_clockOn 55 = .ok (.aload_n 0, 1) := by decide +kernel
theorem dX10_clockOn_56 : decode cX10_clockOn 56 = .ok (.iconst 1, 1) := by decide +kernel
theorem dX10_clockOn_57 : decode cX10_clockOn 57 = .ok (.dup2, 1) := by decide +kernel
theorem dX10_clockOn_58 : decode cX10_clockOn 58 = .ok (.iaload, 1) := by decide +kernel
theorem dX10_clockOn_59 : decode cX10_clockOn 59 = .ok (.iconst 1, 1) := by decide +kernel
theorem dX10_clockOn_60 : decode cX10_clockOn 60 = .ok (.iadd, 1) := by decide +kernel
theorem dX10_clockOn_61 : decode cX10_clockOn 61 = .ok (.iastore, 1) := by decide +kernel
theorem dX10_clockOn_62 : decode cX10_clockOn 62 = .ok (.aload_n 0, 1) := by decide +kernel
theorem dX10_clockOn_63 : decode cX10_clockOn 63 = .ok (.iconst 2, 1) := by decide +kernel
theorem dX10_clockOn_64 : decode cX10_clockOn 64 = .ok (.dup2, 1) := by decide +kernel
theorem dX10_clockOn_65 : decode cX10_clockOn 65 = .ok (.iaload, 1) := by decide +kernel
theorem dX10_clockOn_66 : decode cX10_clockOn 66 = .ok (.ldc 72, 2) := by decide +kernel
theorem dX10_clockOn_68 : decode cX10_clockOn 68 = .ok (.isub, 1) := by decide +kernel
theorem dX10_clockOn_69 : decode cX10_clockOn 69 = .ok (.iastore, 1) := by decide +kernel
theorem dX10_clockOn_70 : decode cX10_clockOn 70 = .ok (.goto (-23), 3) := by decide +kernel
theorem dX10_clockOn_73 : decode cX10_clockOn 73 = .ok (.aload_n 0, 1) := by decide +kernel
theorem dX10_clockOn_74 : decode cX10_clockOn 74 = .ok (.iconst 2, 1) := by decide +kernel
theorem dX10_clockOn_75 : decode cX10_clockOn 75 = .ok (.iaload, 1) := by decide +kernel
theorem dX10_clockOn_76 : decode cX10_clockOn 76 = .ok (.ldc 73, 2) := by decide +kernel
theorem dX10_clockOn_78 : decode cX10_clockOn 78 = .ok (.if_icmp .gt 21, 3) := by decide +kernel
theorem dX10_clockOn_81 : decode cX10_clockOn 81 = .ok (.aload_n 0, 1) := by decide +kernel
theorem dX10_clockOn_82 : decode cX10_clockOn 82 = .ok (.iconst 1, 1) := by decide +kernel
theorem dX10_clockOn_83 : decode cX10_clockOn 83 = .ok (.dup2, 1) := by decide +kernel
theorem dX10_clockOn_84 : decode cX10_clockOn 84 = .ok (.iaload, 1) := by decide +kernel
theorem dX10_clockOn_85 : decode cX10_clockOn 85 = .ok (.iconst 1, 1) := by decide +kernel
theorem dX10_clockOn_86 : decode cX10_clockOn 86 = .ok (.isub, 1) := by decide +kernel
theorem dX10_clockOn_87 : decode cX10_clockOn 87 = .ok (.iastore, 1) := by decide +kernel
theorem dX10_clockOn_88 : decode cX10_clockOn 88 = .ok (.aload_n 0, 1) := by decide +kernel
theorem dX10_clockOn_89 : decode cX10_clockOn 89 = .ok (.iconst 2, 1) := by decide +kernel
theorem dX10_clockOn_90 : decode cX10_clockOn 90 = .ok (.dup2, 1) := by decide +kernel
theorem dX10_clockOn_91 : decode cX10_clockOn 91 = .ok (.iaload, 1) := by decide +kernel
theorem dX10_clockOn_92 : decode cX10_clockOn 92 = .ok (.ldc 72, 2) := by decide +kernel
theorem dX10_clockOn_94 : decode cX10_clockOn 94 = .ok (.iadd, 1) := by decide +kernel
theorem dX10_clockOn_95 : decode cX10_clockOn 95 = .ok (.iastore, 1) := by decide +kernel
theorem dX10_clockOn_96 : decode cX10_clockOn 96 = .ok (.goto (-23), 3) := by decide +kernel
theorem dX10_clockOn_99 : decode cX10_clockOn 99 = .ok (.return_, 1) := by decide +kernel
set_option maxRecDepth 20000 in
theorem ggX10_minuteOn_X10_domainOf : GoodIn wsX10_minuteOn wsX10_domainOf := goodIn_r _ [4] (by decide +kernel) (by decide +kernel)
set_option maxRecDepth 20000 in
theorem gX10_minuteOn_X10_domainOf : GoodIn wsX10_minuteOn (va_wsS RX10 58 yX10_domainOf wsX10_domainOf) := goodIn_app (goodIn_of _ (by decide +kernel)) ggX10_minuteOn_X10_domainOf
set_option maxRecDepth 20000 in
theorem ggX10_minuteOn_X10_chargeOn : GoodIn wsX10_minuteOn wsX10_chargeOn := goodIn_r _ [7, 1, 2, 3, 4, 8, 9, 10, 11, 12, 13, 14, 15, 16] (by decide +kernel) (by decide +kernel)
set_option maxRecDepth 20000 in
theorem gX10_minuteOn_X10_chargeOn : GoodIn wsX10_minuteOn (va_wsS RX10 74 yX10_chargeOn wsX10_chargeOn) := goodIn_app (goodIn_of _ (by decide +kernel)) ggX10_minuteOn_X10_chargeOn
set_option maxRecDepth 20000 in
theorem ggX10_minuteOn_X10_clockOn : GoodIn wsX10_minuteOn wsX10_clockOn := goodIn_r _ [19, 20, 21] (by decide +kernel) (by decide +kernel)
set_option maxRecDepth 20000 in
theorem gX10_minuteOn_X10_clockOn : GoodIn wsX10_minuteOn (va_wsS RX10 77 yX10_clockOn wsX10_clockOn) := goodIn_app (goodIn_of _ (by decide +kernel)) ggX10_minuteOn_X10_clockOn
set_option maxRecDepth 20000 in
theorem ggX10_minuteOn_X10_isDue : GoodIn wsX10_minuteOn wsX10_isDue := goodIn_r _ [24] (by decide +kernel) (by decide +kernel)
set_option maxRecDepth 20000 in
theorem gX10_minuteOn_X10_isDue : GoodIn wsX10_minuteOn (va_wsS RX10 81 yX10_isDue wsX10_isDue) := goodIn_app (goodIn_of _ (by decide +kernel)) ggX10_minuteOn_X10_isDue
set_option maxRecDepth 20000 in
theorem ggX10_minuteOn_X10_ring : GoodIn wsX10_minuteOn wsX10_ring := goodIn_r _ [16] (by decide +kernel) (by decide +kernel)
set_option maxRecDepth 20000 in
theorem gX10_minuteOn_X10_ring : GoodIn wsX10_minuteOn (va_wsS RX10 65 yX10_ring wsX10_ring) := goodIn_app (goodIn_of _ (by decide +kernel)) ggX10_minuteOn_X10_ring
theorem dX10_minuteOn_0 : decode cX10_minuteOn 0 = .ok (.aload_n 0, 1) := by decide +kernel
theorem dX10_minuteOn_1 : decode cX10_minuteOn 1 = .ok (.invokestatic 58, 3) := by decide +kernel
theorem dX10_minuteOn_4 : decode cX10_minuteOn 4 = .ok (.istore_n 2, 1) := by decide +kernel
theorem dX10_minuteOn_5 : decode cX10_minuteOn 5 = .ok (.aload_n 0, 1) := by decide +kernel
theorem dX10_minuteOn_6 : decode cX10_minuteOn 6 = .ok (.iconst 0, 1) := by decide +kernel
theorem dX10_minuteOn_7 : decode cX10_minuteOn 7 = .ok (.dup2, 1) := by decide +kernel
theorem dX10_minuteOn_8 : decode cX10_minuteOn 8 = .ok (.iaload, 1) := by decide +kernel
theorem dX10_minuteOn_9 : decode cX10_minuteOn 9 = .ok (.iconst 1, 1) := by decide +kernel
theorem dX10_minuteOn_10 : decode cX10_minuteOn 10 = .ok (.iadd, 1) := by decide +kernel
theorem dX10_minuteOn_11 : decode cX10_minuteOn 11 = .ok (.iastore, 1) := by decide +kernel
theorem dX10_minuteOn_12 : decode cX10_minuteOn 12 = .ok (.aload_n 0, 1) := by decide +kernel
theorem dX10_minuteOn_13 : decode cX10_minuteOn 13 = .ok (.bipush 12, 2) := by decide +kernel
theorem dX10_minuteOn_15 : decode cX10_minuteOn 15 = .ok (.iload_n 2, 1) := by decide +kernel
theorem dX10_minuteOn_16 : decode cX10_minuteOn 16 = .ok (.iadd, 1) := by decide +kernel
theorem dX10_minuteOn_17 : decode cX10_minuteOn 17 = .ok (.dup2, 1) := by decide +kernel
theorem dX10_minuteOn_18 : decode cX10_minuteOn 18 = .ok (.iaload, 1) := by decide +kernel
theorem dX10_minuteOn_19 : decode cX10_minuteOn 19 = .ok (.iconst 1, 1) := by decide +kernel
theorem dX10_minuteOn_20 : decode cX10_minuteOn 20 = .ok (.iadd, 1) := by decide +kernel
theorem dX10_minuteOn_21 : decode cX10_minuteOn 21 = .ok (.iastore, 1) := by decide +kernel
theorem dX10_minuteOn_22 : decode cX10_minuteOn 22 = .ok (.iload_n 2, 1) := by decide +kernel
theorem dX10_minuteOn_23 : decode cX10_minuteOn 23 = .ok (.iconst 1, 1) := by decide +kernel
theorem dX10_minuteOn_24 : decode cX10_minuteOn 24 = .ok (.if_icmp .eq 8, 3) := by decide +kernel
theorem dX10_minuteOn_27 : decode cX10_minuteOn 27 = .ok (.iload_n 2, 1) := by decide +kernel
theorem dX10_minuteOn_28 : decode cX10_minuteOn 28 = .ok (.iconst 2, 1) := by decide +kernel
theorem dX10_minuteOn_29 : decode cX10_minuteOn 29 = .ok (.if_icmp .ne 13, 3) := by decide +kernel
theorem dX10_minuteOn_32 : decode cX10_minuteOn 32 = .ok (.aload_n 0, 1) := by decide +kernel
theorem dX10_minuteOn_33 : decode cX10_minuteOn 33 = .ok (.aload_n 0, 1) := by decide +kernel
theorem dX10_minuteOn_34 : decode cX10_minuteOn 34 = .ok (.bipush 7, 2) := by decide +kernel
theorem dX10_minuteOn_36 : decode cX10_minuteOn 36 = .ok (.iaload, 1) := by decide +kernel
theorem dX10_minuteOn_37 : decode cX10_minuteOn 37 = .ok (.iconst 1, 1) := by decide +kernel
theorem dX10_minuteOn_38 : decode cX10_minuteOn 38 = .ok (.isub, 1) := by decide +kernel
theorem dX10_minuteOn_39 : decode cX10_minuteOn 39 = .ok (.invokestatic 74, 3) := by decide +kernel
theorem dX10_minuteOn_42 : decode cX10_minuteOn 42 = .ok (.aload_n 0, 1) := by decide +kernel
theorem dX10_minuteOn_43 : decode cX10_minuteOn 43 = .ok (.invokestatic 58, 3) := by decide +kernel
theorem dX10_minuteOn_46 : decode cX10_minuteOn 46 = .ok (.iconst 3, 1) := by decide +kernel
theorem dX10_minuteOn_47 : decode cX10_minuteOn 47 = .ok (.if_icmp .ne 5, 3) := by decide +kernel
theorem dX10_minuteOn_50 : decode cX10_minuteOn 50 = .ok (.iconst 0, 1) := by decide +kernel
theorem dX10_minuteOn_51 : decode cX10_minuteOn 51 = .ok (.ireturn, 1) := by decide +kernel
theorem dX10_minuteOn_52 : decode cX10_minuteOn 52 = .ok (.aload_n 0, 1) := by decide +kernel
theorem dX10_minuteOn_53 : decode cX10_minuteOn 53 = .ok (.iconst 1, 1) := by decide +kernel
theorem dX10_minuteOn_54 : decode cX10_minuteOn 54 = .ok (.iaload, 1) := by decide +kernel
theorem dX10_minuteOn_55 : decode cX10_minuteOn 55 = .ok (.bipush 60, 2) := by decide +kernel
theorem dX10_minuteOn_57 : decode cX10_minuteOn 57 = .ok (.idiv, 1) := by decide +kernel
theorem dX10_minuteOn_58 : decode cX10_minuteOn 58 = .ok (.istore_n 3, 1) := by decide +kernel
theorem dX10_minuteOn_59 : decode cX10_minuteOn 59 = .ok (.aload_n 0, 1) := by decide +kernel
theorem dX10_minuteOn_60 : decode cX10_minuteOn 60 = .ok (.aload_n 1, 1) := by decide +kernel
theorem dX10_minuteOn_61 : decode cX10_minuteOn 61 = .ok (.invokestatic 77, 3) := by decide +kernel
theorem dX10_minuteOn_64 : decode cX10_minuteOn 64 = .ok (.aload_n 0, 1) := by decide +kernel
theorem dX10_minuteOn_65 : decode cX10_minuteOn 65 = .ok (.iconst 1, 1) := by decide +kernel
theorem dX10_minuteOn_66 : decode cX10_minuteOn 66 = .ok (.iaload, 1) := by decide +kernel
theorem dX10_minuteOn_67 : decode cX10_minuteOn 67 = .ok (.bipush 60, 2) := by decide +kernel
theorem dX10_minuteOn_69 : decode cX10_minuteOn 69 = .ok (.idiv, 1) := by decide +kernel
theorem dX10_minuteOn_70 : decode cX10_minuteOn 70 = .ok (.istore 4, 2) := by decide +kernel
theorem dX10_minuteOn_72 : decode cX10_minuteOn 72 = .ok (.iconst 0, 1) := by decide +kernel
theorem dX10_minuteOn_73 : decode cX10_minuteOn 73 = .ok (.istore 5, 2) := by decide +kernel
theorem dX10_minuteOn_75 : decode cX10_minuteOn 75 = .ok (.iconst 0, 1) := by decide +kernel
theorem dX10_minuteOn_76 : decode cX10_minuteOn 76 = .ok (.istore 6, 2) := by decide +kernel
theorem dX10_minuteOn_78 : decode cX10_minuteOn 78 = .ok (.iload 6, 2) := by decide +kernel
theorem dX10_minuteOn_80 : decode cX10_minuteOn 80 = .ok (.iconst 4, 1) := by decide +kernel
theorem dX10_minuteOn_81 : decode cX10_minuteOn 81 = .ok (.if_icmp .ge 55, 3) := by decide +kernel
theorem dX10_minuteOn_84 : decode cX10_minuteOn 84 = .ok (.aload_n 0, 1) := by decide +kernel
theorem dX10_minuteOn_85 : decode cX10_minuteOn 85 = .ok (.iload 6, 2) := by decide +kernel
theorem dX10_minuteOn_87 : decode cX10_minuteOn 87 = .ok (.iload_n 3, 1) := by decide +kernel
theorem dX10_minuteOn_88 : decode cX10_minuteOn 88 = .ok (.iload 4, 2) := by decide +kernel
theorem dX10_minuteOn_90 : decode cX10_minuteOn 90 = .ok (.invokestatic 81, 3) := by decide +kernel
theorem dX10_minuteOn_93 : decode cX10_minuteOn 93 = .ok (.ifCond .eq 37, 3) := by decide +kernel
theorem dX10_minuteOn_96 : decode cX10_minuteOn 96 = .ok (.iload 5, 2) := by decide +kernel
theorem dX10_minuteOn_98 : decode cX10_minuteOn 98 = .ok (.iconst 1, 1) := by decide +kernel
theorem dX10_minuteOn_99 : decode cX10_minuteOn 99 = .ok (.iload 6, 2) := by decide +kernel
theorem dX10_minuteOn_101 : decode cX10_minuteOn 101 = .ok (.ishl, 1) := by decide +kernel
theorem dX10_minuteOn_102 : decode cX10_minuteOn 102 = .ok (.ior, 1) := by decide +kernel
theorem dX10_minuteOn_103 : decode cX10_minuteOn 103 = .ok (.istore 5, 2) := by decide +kernel
theorem dX10_minuteOn_105 : decode cX10_minuteOn 105 = .ok (.iload_n 2, 1) := by decide +kernel
theorem dX10_minuteOn_106 : decode cX10_minuteOn 106 = .ok (.ifCond .ne 12, 3) := by decide +kernel
theorem dX10_minuteOn_109 : decode cX10_minuteOn 109 = .ok (.aload_n 0, 1) := by decide +kernel
theorem dX10_minuteOn_110 : decode cX10_minuteOn 110 = .ok (.iload 6, 2) := by decide +kernel
theorem dX10_minuteOn_112 : decode cX10_minuteOn 112 = .ok (.invokestatic 65, 3) := by decide +kernel
theorem dX10_minuteOn_115 : decode cX10_minuteOn 115 = .ok (.goto 15, 3) := by decide +kernel
theorem dX10_minuteOn_118 : decode cX10_minuteOn 118 = .ok (.aload_n 0, 1) := by decide +kernel
theorem dX10_minuteOn_119 : decode cX10_minuteOn 119 = .ok (.bipush 27, 2) := by decide +kernel
theorem dX10_minuteOn_121 : decode cX10_minuteOn 121 = .ok (.iconst 3, 1) := by decide +kernel
theorem dX10_minuteOn_122 : decode cX10_minuteOn 122 = .ok (.iload 6, 2) := by decide +kernel
theorem dX10_minuteOn_124 : decode cX10_minuteOn 124 = .ok (.imul, 1) := by decide +kernel
theorem dX10_minuteOn_125 : decode cX10_minuteOn 125 = .ok (.iadd, 1) := by decide +kernel
theorem dX10_minuteOn_126 : decode cX10_minuteOn 126 = .ok (.iconst 1, 1) := by decide +kernel
theorem dX10_minuteOn_127 : decode cX10_minuteOn 127 = .ok (.iadd, 1) := by decide +kernel
theorem dX10_minuteOn_128 : decode cX10_minuteOn 128 = .ok (.iconst 1, 1) := by decide +kernel
theorem dX10_minuteOn_129 : decode cX10_minuteOn 129 = .ok (.iastore, 1) := by decide +kernel
theorem dX10_minuteOn_130 : decode cX10_minuteOn 130 = .ok (.iinc 6 1, 3) := by decide +kernel
theorem dX10_minuteOn_133 : decode cX10_minuteOn 133 = .ok (.goto (-55), 3) := by decide +kernel
theorem dX10_minuteOn_136 : decode cX10_minuteOn 136 = .ok (.iload 5, 2) := by decide +kernel
theorem dX10_minuteOn_138 : decode cX10_minuteOn 138 = .ok (.ireturn, 1) := by decide +kernel
set_option maxRecDepth 20000 in
theorem ggX10_minutesOn_X10_minuteOn : GoodIn wsX10_minutesOn wsX10_minuteOn := goodIn_r _ [4, 5, 6, 3, 7, 8, 9, 10, 11, 12, 13, 14, 15, 16, 17, 18, 19, 20, 21, 22, 23, 24, 25, 26, 27] (by decide +kernel) (by decide +kernel)
set_option maxRecDepth 20000 in
theorem gX10_minutesOn_X10_minuteOn : GoodIn wsX10_minutesOn (va_wsS RX10 85 yX10_minuteOn wsX10_minuteOn) := goodIn_app (goodIn_of _ (by decide +kernel)) ggX10_minutesOn_X10_minuteOn
theorem dX10_minutesOn_0 : decode cX10_minutesOn 0 = .ok (.iconst 0, 1) := by decide +kernel
theorem dX10_minutesOn_1 : decode cX10_minutesOn 1 = .ok (.istore_n 3, 1) := by decide +kernel
theorem dX10_minutesOn_2 : decode cX10_minutesOn 2 = .ok (.iload_n 3, 1) := by decide +kernel
theorem dX10_minutesOn_3 : decode cX10_minutesOn 3 = .ok (.iload_n 2, 1) := by decide +kernel
theorem dX10_minutesOn_4 : decode cX10_minutesOn 4 = .ok (.if_icmp .ge 15, 3) := by decide +kernel
theorem dX10_minutesOn_7 : decode cX10_minutesOn 7 = .ok (.aload_n 0, 1) := by decide +kernel
theorem dX10_minutesOn_8 : decode cX10_minutesOn 8 = .ok (.aload_n 1, 1) := by decide +kernel
theorem dX10_minutesOn_9 : decode cX10_minutesOn 9 = .ok (.invokestatic 85, 3) := by decide +kernel
theorem dX10_minutesOn_12 : decode cX10_minutesOn 12 = .ok (.pop, 1) := by decide +kernel
theorem dX10_minutesOn_13 : decode cX10_minutesOn 13 = .ok (.iinc 3 1, 3) := by decide +kernel
theorem dX10_minutesOn_16 : decode cX10_minutesOn 16 = .ok (.goto (-14), 3) := by decide +kernel
theorem dX10_minutesOn_19 : decode cX10_minutesOn 19 = .ok (.return_, 1) := by decide +kernel
set_option maxRecDepth 20000 in
theorem ggX10_tamperOn_X10_domainOf : GoodIn wsX10_tamperOn wsX10_domainOf := goodIn_r _ [4] (by decide +kernel) (by decide +kernel)
set_option maxRecDepth 20000 in
theorem gX10_tamperOn_X10_domainOf : GoodIn wsX10_tamperOn (va_wsS RX10 58 yX10_domainOf wsX10_domainOf) := goodIn_app (goodIn_of _ (by decide +kernel)) ggX10_tamperOn_X10_domainOf
theorem dX10_tamperOn_0 : decode cX10_tamperOn 0 = .ok (.aload_n 0, 1) := by decide +kernel
theorem dX10_tamperOn_1 : decode cX10_tamperOn 1 = .ok (.invokestatic 58, 3) := by decide +kernel
theorem dX10_tamperOn_4 : decode cX10_tamperOn 4 = .ok (.istore_n 2, 1) := by decide +kernel
theorem dX10_tamperOn_5 : decode cX10_tamperOn 5 = .ok (.aload_n 0, 1) := by decide +kernel
theorem dX10_tamperOn_6 : decode cX10_tamperOn 6 = .ok (.bipush 24, 2) := by decide +kernel
theorem dX10_tamperOn_8 : decode cX10_tamperOn 8 = .ok (.iload_n 1, 1) := by decide +kernel
theorem dX10_tamperOn_9 : decode cX10_tamperOn 9 = .ok (.iadd, 1) := by decide +kernel
theorem dX10_tamperOn_10 : decode cX10_tamperOn 10 = .ok (.iaload, 1) := by decide +kernel
theorem dX10_tamperOn_11 : decode cX10_tamperOn 11 = .ok (.ifCond .eq 8, 3) := by decide +kernel
theorem dX10_tamperOn_14 : decode cX10_tamperOn 14 = .ok (.iload_n 2, 1) := by decide +kernel
theorem dX10_tamperOn_15 : decode cX10_tamperOn 15 = .ok (.iconst 3, 1) := by decide +kernel
theorem dX10_tamperOn_16 : decode cX10_tamperOn 16 = .ok (.if_icmp .ne 4, 3) := by decide +kernel
theorem dX10_tamperOn_19 : decode cX10_tamperOn 19 = .ok (.return_, 1) := by decide +kernel
theorem dX10_tamperOn_20 : decode cX10_tamperOn 20 = .ok (.iconst 0, 1) := by decide +kernel
theorem dX10_tamperOn_21 : decode cX10_tamperOn 21 = .ok (.istore_n 3, 1) := by decide +kernel
theorem dX10_tamperOn_22 : decode cX10_tamperOn 22 = .ok (.iload_n 3, 1) := by decide +kernel
theorem dX10_tamperOn_23 : decode cX10_tamperOn 23 = .ok (.bipush 8, 2) := by decide +kernel
theorem dX10_tamperOn_25 : decode cX10_tamperOn 25 = .ok (.if_icmp .ge 16, 3) := by decide +kernel
theorem dX10_tamperOn_28 : decode cX10_tamperOn 28 = .ok (.aload_n 0, 1) := by decide +kernel
theorem dX10_tamperOn_29 : decode cX10_tamperOn 29 = .ok (.bipush 16, 2) := by decide +kernel
theorem dX10_tamperOn_31 : decode cX10_tamperOn 31 = .ok (.iload_n 3, 1) := by decide +kernel
theorem dX10_tamperOn_32 : decode cX10_tamperOn 32 = .ok (.iadd, 1) := by decide +kernel
theorem dX10_tamperOn_33 : decode cX10_tamperOn 33 = .ok (.iconst 0, 1) := by decide +kernel
theorem dX10_tamperOn_34 : decode cX10_tamperOn 34 = .ok (.iastore, 1) := by decide +kernel
theorem dX10_tamperOn_35 : decode cX10_tamperOn 35 = .ok (.iinc 3 1, 3) := by decide +kernel
theorem dX10_tamperOn_38 : decode cX10_tamperOn 38 = .ok (.goto (-16), 3) := by decide +kernel
theorem dX10_tamperOn_41 : decode cX10_tamperOn 41 = .ok (.aload_n 0, 1) := by decide +kernel
theorem dX10_tamperOn_42 : decode cX10_tamperOn 42 = .ok (.bipush 8, 2) := by decide +kernel
theorem dX10_tamperOn_44 : decode cX10_tamperOn 44 = .ok (.dup2, 1) := by decide +kernel
theorem dX10_tamperOn_45 : decode cX10_tamperOn 45 = .ok (.iaload, 1) := by decide +kernel
theorem dX10_tamperOn_46 : decode cX10_tamperOn 46 = .ok (.iconst 1, 1) := by decide +kernel
theorem dX10_tamperOn_47 : decode cX10_tamperOn 47 = .ok (.iadd, 1) := by decide +kernel
theorem dX10_tamperOn_48 : decode cX10_tamperOn 48 = .ok (.iastore, 1) := by decide +kernel
theorem dX10_tamperOn_49 : decode cX10_tamperOn 49 = .ok (.aload_n 0, 1) := by decide +kernel
theorem dX10_tamperOn_50 : decode cX10_tamperOn 50 = .ok (.bipush 11, 2) := by decide +kernel
theorem dX10_tamperOn_52 : decode cX10_tamperOn 52 = .ok (.iaload, 1) := by decide +kernel
theorem dX10_tamperOn_53 : decode cX10_tamperOn 53 = .ok (.bipush 6, 2) := by decide +kernel
theorem dX10_tamperOn_55 : decode cX10_tamperOn 55 = .ok (.if_icmp .ge 39, 3) := by decide +kernel
theorem dX10_tamperOn_58 : decode cX10_tamperOn 58 = .ok (.bipush 39, 2) := by decide +kernel
theorem dX10_tamperOn_60 : decode cX10_tamperOn 60 = .ok (.iconst 3, 1) := by decide +kernel
theorem dX10_tamperOn_61 : decode cX10_tamperOn 61 = .ok (.aload_n 0, 1) := by decide +kernel
theorem dX10_tamperOn_62 : decode cX10_tamperOn 62 = .ok (.bipush 11, 2) := by decide +kernel
theorem dX10_tamperOn_64 : decode cX10_tamperOn 64 = .ok (.iaload, 1) := by decide +kernel
theorem dX10_tamperOn_65 : decode cX10_tamperOn 65 = .ok (.imul, 1) := by decide +kernel
theorem dX10_tamperOn_66 : decode cX10_tamperOn 66 = .ok (.iadd, 1) := by decide +kernel
theorem dX10_tamperOn_67 : decode cX10_tamperOn 67 = .ok (.istore_n 3, 1) := by decide +kernel
theorem dX10_tamperOn_68 : decode cX10_tamperOn 68 = .ok (.aload_n 0, 1) := by decide +kernel
theorem dX10_tamperOn_69 : decode cX10_tamperOn 69 = .ok (.iload_n 3, 1) := by decide +kernel
theorem dX10_tamperOn_70 : decode cX10_tamperOn 70 = .ok (.iload_n 1, 1) := by decide +kernel
theorem dX10_tamperOn_71 : decode cX10_tamperOn 71 = .ok (.iastore, 1) := by decide +kernel
theorem dX10_tamperOn_72 : decode cX10_tamperOn 72 = .ok (.aload_n 0, 1) := by decide +kernel
theorem dX10_tamperOn_73 : decode cX10_tamperOn 73 = .ok (.iload_n 3, 1) := by decide +kernel
theorem dX10_tamperOn_74 : decode cX10_tamperOn 74 = .ok (.iconst 1, 1) := by decide +kernel
theorem dX10_tamperOn_75 : decode cX10_tamperOn 75 = .ok (.iadd, 1) := by decide +kernel
theorem dX10_tamperOn_76 : decode cX10_tamperOn 76 = .ok (.aload_n 0, 1) := by decide +kernel
theorem dX10_tamperOn_77 : decode cX10_tamperOn 77 = .ok (.iconst 1, 1) := by decide +kernel
theorem dX10_tamperOn_78 : decode cX10_tamperOn 78 = .ok (.iaload, 1) := by decide +kernel
theorem dX10_tamperOn_79 : decode cX10_tamperOn 79 = .ok (.iastore, 1) := by decide +kernel
theorem dX10_tamperOn_80 : decode cX10_tamperOn 80 = .ok (.aload_n 0, 1) := by decide +kernel
theorem dX10_tamperOn_81 : decode cX10_tamperOn 81 = .ok (.iload_n 3, 1) := by decide +kernel
theorem dX10_tamperOn_82 : decode cX10_tamperOn 82 = .ok (.iconst 2, 1) := by decide +kernel
theorem dX10_tamperOn_83 : decode cX10_tamperOn 83 = .ok (.iadd, 1) := by decide +kernel
theorem dX10_tamperOn_84 : decode cX10_tamperOn 84 = .ok (.iload_n 2, 1) := by decide +kernel
theorem dX10_tamperOn_85 : decode cX10_tamperOn 85 = .ok (.iastore, 1) := by decide +kernel
theorem dX10_tamperOn_86 : decode cX10_tamperOn 86 = .ok (.aload_n 0, 1) := by decide +kernel
theorem dX10_tamperOn_87 : decode cX10_tamperOn 87 = .ok (.bipush 11, 2) := by decide +kernel
theorem dX10_tamperOn_89 : decode cX10_tamperOn 89 = .ok (.dup2, 1) := by decide +kernel
theorem dX10_tamperOn_90 : decode cX10_tamperOn 90 = .ok (.iaload, 1) := by decide +kernel
theorem dX10_tamperOn_91 : decode cX10_tamperOn 91 = .ok (.iconst 1, 1) := by decide +kernel
theorem dX10_tamperOn_92 : decode cX10_tamperOn 92 = .ok (.iadd, 1) := by decide +kernel
theorem dX10_tamperOn_93 : decode cX10_tamperOn 93 = .ok (.iastore, 1) := by decide +kernel
theorem dX10_tamperOn_94 : decode cX10_tamperOn 94 = .ok (.return_, 1) := by decide +kernel
set_option maxRecDepth 20000 in
theorem ggX10_append_X10_in : GoodIn wsX10_append wsX10_in := goodIn_r _ [7] (by decide +kernel) (by decide +kernel)
set_option maxRecDepth 20000 in
theorem gX10_append_X10_in : GoodIn wsX10_append (va_wsS RX10 91 yX10_in wsX10_in) := goodIn_app (goodIn_of _ (by decide +kernel)) ggX10_append_X10_in
set_option maxRecDepth 20000 in
theorem ggX10_append_X10_refused : GoodIn wsX10_append wsX10_refused := goodIn_r _ [11, 12, 13, 14, 15, 16, 17, 18, 19, 20, 21, 22, 23, 24, 25, 26, 27] (by decide +kernel) (by decide +kernel)
set_option maxRecDepth 20000 in
theorem gX10_append_X10_refused : GoodIn wsX10_append (wsV RX10 98 RX10 yX10_refused wsX10_refused) := goodIn_app (goodIn_of _ (by decide +kernel)) ggX10_append_X10_refused
theorem dX10_append_0 : decode cX10_append 0 = .ok (.aload_n 0, 1) := by decide +kernel
theorem dX10_append_1 : decode cX10_append 1 = .ok (.iload_n 1, 1) := by decide +kernel
theorem dX10_append_2 : decode cX10_append 2 = .ok (.i2l, 1) := by decide +kernel
theorem dX10_append_3 : decode cX10_append 3 = .ok (.lconst 0, 1) := by decide +kernel
theorem dX10_append_4 : decode cX10_append 4 = .ok (.ldc2_w 89, 3) := by decide +kernel
theorem dX10_append_7 : decode cX10_append 7 = .ok (.invokestatic 91, 3) := by decide +kernel
theorem dX10_append_10 : decode cX10_append 10 = .ok (.ifCond .ne 7, 3) := by decide +kernel
theorem dX10_append_13 : decode cX10_append 13 = .ok (.iconst 1, 1) := by decide +kernel
theorem dX10_append_14 : decode cX10_append 14 = .ok (.goto 17, 3) := by decide +kernel
theorem dX10_append_17 : decode cX10_append 17 = .ok (.aload_n 0, 1) := by decide +kernel
theorem dX10_append_18 : decode cX10_append 18 = .ok (.getfield 95, 3) := by decide +kernel
theorem dX10_append_21 : decode cX10_append 21 = .ok (.bipush 60, 2) := by decide +kernel
theorem dX10_append_23 : decode cX10_append 23 = .ok (.if_icmp .ne 7, 3) := by decide +kernel
theorem dX10_append_26 : decode cX10_append 26 = .ok (.iconst 2, 1) := by decide +kernel
theorem dX10_append_27 : decode cX10_append 27 = .ok (.goto 4, 3) := by decide +kernel
theorem dX10_append_30 : decode cX10_append 30 = .ok (.iconst 0, 1) := by decide +kernel
theorem dX10_append_31 : decode cX10_append 31 = .ok (.invokevirtual 98, 3) := by decide +kernel
theorem dX10_append_34 : decode cX10_append 34 = .ok (.ifCond .eq 5, 3) := by decide +kernel
theorem dX10_append_37 : decode cX10_append 37 = .ok (.iconst 0, 1) := by decide +kernel
theorem dX10_append_38 : decode cX10_append 38 = .ok (.ireturn, 1) := by decide +kernel
theorem dX10_append_39 : decode cX10_append 39 = .ok (.aload_n 0, 1) := by decide +kernel
theorem dX10_append_40 : decode cX10_append 40 = .ok (.getfield 7, 3) := by decide +kernel
theorem dX10_append_43 : decode cX10_append 43 = .ok (.aload_n 0, 1) := by decide +kernel
theorem dX10_append_44 : decode cX10_append 44 = .ok (.getfield 95, 3) := by decide +kernel
theorem dX10_append_47 : decode cX10_append 47 = .ok (.iload_n 1, 1) := by decide +kernel
theorem dX10_append_48 : decode cX10_append 48 = .ok (.iastore, 1) := by decide +kernel
theorem dX10_append_49 : decode cX10_append 49 = .ok (.aload_n 0, 1) := by decide +kernel
theorem dX10_append_50 : decode cX10_append 50 = .ok (.dup, 1) := by decide +kernel
theorem dX10_append_51 : decode cX10_append 51 = .ok (.getfield 95, 3) := by decide +kernel
theorem dX10_append_54 : decode cX10_append 54 = .ok (.iconst 1, 1) := by decide +kernel
theorem dX10_append_55 : decode cX10_append 55 = .ok (.iadd, 1) := by decide +kernel
theorem dX10_append_56 : decode cX10_append 56 = .ok (.putfield 95, 3) := by decide +kernel
theorem dX10_append_59 : decode cX10_append 59 = .ok (.aload_n 0, 1) := by decide +kernel
theorem dX10_append_60 : decode cX10_append 60 = .ok (.getfield 95, 3) := by decide +kernel
theorem dX10_append_63 : decode cX10_append 63 = .ok (.ireturn, 1) := by decide +kernel
theorem dX10_clearText_0 : decode cX10_clearText 0 = .ok (.aload_n 0, 1) := by decide +kernel
theorem dX10_clearText_1 : decode cX10_clearText 1 = .ok (.iconst 0, 1) := by decide +kernel
theorem dX10_clearText_2 : decode cX10_clearText 2 = .ok (.putfield 49, 3) := by decide +kernel
theorem dX10_clearText_5 : decode cX10_clearText 5 = .ok (.aload_n 0, 1) := by decide +kernel
theorem dX10_clearText_6 : decode cX10_clearText 6 = .ok (.getfield 95, 3) := by decide +kernel
theorem dX10_clearText_9 : decode cX10_clearText 9 = .ok (.istore_n 1, 1) := by decide +kernel
theorem dX10_clearText_10 : decode cX10_clearText 10 = .ok (.aload_n 0, 1) := by decide +kernel
theorem dX10_clearText_11 : decode cX10_clearText 11 = .ok (.iconst 0, 1) := by decide +kernel
theorem dX10_clearText_12 : decode cX10_clearText 12 = .ok (.putfield 95, 3) := by decide +kernel
theorem dX10_clearText_15 : decode cX10_clearText 15 = .ok (.iload_n 1, 1) := by decide +kernel
theorem dX10_clearText_16 : decode cX10_clearText 16 = .ok (.ireturn, 1) := by decide +kernel
theorem dX10_eat_0 : decode cX10_eat 0 = .ok (.aload_n 0, 1) := by decide +kernel
theorem dX10_eat_1 : decode cX10_eat 1 = .ok (.getfield 102, 3) := by decide +kernel
theorem dX10_eat_4 : decode cX10_eat 4 = .ok (.aload_n 0, 1) := by decide +kernel
theorem dX10_eat_5 : decode cX10_eat 5 = .ok (.getfield 95, 3) := by decide +kernel
theorem dX10_eat_8 : decode cX10_eat 8 = .ok (.if_icmp .ge 20, 3) := by decide +kernel
theorem dX10_eat_11 : decode cX10_eat 11 = .ok (.aload_n 0, 1) := by decide +kernel
theorem dX10_eat_12 : decode cX10_eat 12 = .ok (.getfield 7, 3) := by decide +kernel
theorem dX10_eat_15 : decode cX10_eat 15 = .ok (.aload_n 0, 1) := by decide +kernel
theorem dX10_eat_16 : decode cX10_eat 16 = .ok (.getfield 102, 3) := by decide +kernel
theorem dX10_eat_19 : decode cX10_eat 19 = .ok (.iaload, 1) := by decide +kernel
theorem dX10_eat_20 : decode cX10_eat 20 = .ok (.iload_n 1, 1) := by decide +kernel
theorem dX10_eat_21 : decode cX10_eat 21 = .ok (.if_icmp .ne 7, 3) := by decide +kernel
theorem dX10_eat_24 : decode cX10_eat 24 = .ok (.iconst 1, 1) := by decide +kernel
theorem dX10_eat_25 : decode cX10_eat 25 = .ok (.goto 4, 3) := by decide +kernel
theorem dX10_eat_28 : decode cX10_eat 28 = .ok (.iconst 0, 1) := by decide +kernel
theorem dX10_eat_29 : decode cX10_eat 29 = .ok (.istore_n 2, 1) := by decide +kernel
theorem dX10_eat_30 : decode cX10_eat 30 = .ok (.aload_n 0, 1) := by decide +kernel
theorem dX10_eat_31 : decode cX10_eat 31 = .ok (.dup, 1) := by decide +kernel
theorem dX10_eat_32 : decode cX10_eat 32 = .ok (.getfield 102, 3) := by decide +kernel
theorem dX10_eat_35 : decode cX10_eat 35 = .ok (.iload_n 2, 1) := by decide +kernel
theorem dX10_eat_36 : decode cX10_eat 36 = .ok (.ifCond .eq 7, 3) := by decide +kernel
theorem dX10_eat_39 : decode cX10_eat 39 = .ok (.iconst 1, 1) := by decide +kernel
theorem dX10_eat_40 : decode cX10_eat 40 = .ok (.goto 4, 3) := by decide +kernel
theorem dX10_eat_43 : decode cX10_eat 43 = .ok (.iconst 0, 1) := by decide +kernel
theorem dX10_eat_44 : decode cX10_eat 44 = .ok (.iadd, 1) := by decide +kernel
theorem dX10_eat_45 : decode cX10_eat 45 = .ok (.putfield 102, 3) := by decide +kernel
theorem dX10_eat_48 : decode cX10_eat 48 = .ok (.iload_n 2, 1) := by decide +kernel
theorem dX10_eat_49 : decode cX10_eat 49 = .ok (.ireturn, 1) := by decide +kernel
set_option maxRecDepth 20000 in
theorem ggX10_number_X10_in : GoodIn wsX10_number wsX10_in := goodIn_r _ [9] (by decide +kernel) (by decide +kernel)
set_option maxRecDepth 20000 in
theorem gX10_number_X10_in : GoodIn wsX10_number (va_wsS RX10 91 yX10_in wsX10_in) := goodIn_app (goodIn_of _ (by decide +kernel)) ggX10_number_X10_in
theorem dX10_number_0 : decode cX10_number 0 = .ok (.iload_n 1, 1) := by decide +kernel
theorem dX10_number_1 : decode cX10_number 1 = .ok (.iconst 4, 1) := by decide +kernel
theorem dX10_number_2 : decode cX10_number 2 = .ok (.if_icmp .ne 9, 3) := by decide +kernel
theorem dX10_number_5 : decode cX10_number 5 = .ok (.sipush 1000, 3) := by decide +kernel
theorem dX10_number_8 : decode cX10_number 8 = .ok (.goto 24, 3) := by decide +kernel
theorem dX10_number_11 : decode cX10_number 11 = .ok (.iload_n 1, 1) := by decide +kernel
theorem dX10_number_12 : decode cX10_number 12 = .ok (.iconst 3, 1) := by decide +kernel
theorem dX10_number_13 : decode cX10_number 13 = .ok (.if_icmp .ne 8, 3) := by decide +kernel
theorem dX10_number_16 : decode cX10_number 16 = .ok (.bipush 100, 2) := by decide +kernel
theorem dX10_number_18 : decode cX10_number 18 = .ok (.goto 14, 3) := by decide +kernel
theorem dX10_number_21 : decode cX10_number 21 = .ok (.iload_n 1, 1) := by decide +kernel
theorem dX10_number_22 : decode cX10_number 22 = .ok (.iconst 2, 1) := by decide +kernel
theorem dX10_number_23 : decode cX10_number 23 = .ok (.if_icmp .ne 8, 3) := by decide +kernel
theorem dX10_number_26 : decode cX10_number 26 = .ok (.bipush 10, 2) := by decide +kernel
theorem dX10_number_28 : decode cX10_number 28 = .ok (.goto 4, 3) := by decide +kernel
theorem dX10_number_31 : decode cX10_number 31 = .ok (.iconst 1, 1) := by decide +kernel
theorem dX10_number_32 : decode cX10_number 32 = .ok (.istore_n 3, 1) := by decide +kernel
theorem dX10_number_33 : decode cX10_number 33 = .ok (.iconst 0, 1) := by decide +kernel
theorem dX10_number_34 : decode cX10_number 34 = .ok (.istore 4, 2) := by decide +kernel
theorem dX10_number_36 : decode cX10_number 36 = .ok (.iload_n 3, 1) := by decide +kernel
theorem dX10_number_37 : decode cX10_number 37 = .ok (.ifCond .le 86, 3) := by decide +kernel
theorem dX10_number_40 : decode cX10_number 40 = .ok (.aload_n 0, 1) := by decide +kernel
theorem dX10_number_41 : decode cX10_number 41 = .ok (.getfield 102, 3) := by decide +kernel
theorem dX10_number_44 : decode cX10_number 44 = .ok (.aload_n 0, 1) := by decide +kernel
theorem dX10_number_45 : decode cX10_number 45 = .ok (.getfield 95, 3) := by decide +kernel
theorem dX10_number_48 : decode cX10_number 48 = .ok (.if_icmp .ge 18, 3) := by decide +kernel
theorem dX10_number_51 : decode cX10_number 51 = .ok (.aload_n 0, 1) := by decide +kernel
theorem dX10_number_52 : decode cX10_number 52 = .ok (.getfield 7, 3) := by decide +kernel
theorem dX10_number_55 : decode cX10_number 55 = .ok (.aload_n 0, 1) := by decide +kernel
theorem dX10_number_56 : decode cX10_number 56 = .ok (.getfield 102, 3) := by decide +kernel
theorem dX10_number_59 : decode cX10_number 59 = .ok (.iaload, 1) := by decide +kernel
theorem dX10_number_60 : decode cX10_number 60 = .ok (.bipush 48, 2) := by decide +kernel
theorem dX10_number_62 : decode cX10_number 62 = .ok (.isub, 1) := by decide +kernel
theorem dX10_number_63 : decode cX10_number 63 = .ok (.goto 4, 3) := by decide +kernel
theorem dX10_number_66 : decode cX10_number 66 = .ok (.iconst (-1), 1) := by decide +kernel
theorem dX10_number_67 : decode cX10_number 67 = .ok (.istore 5, 2) := by decide +kernel
theorem dX10_number_69 : decode cX10_number 69 = .ok (.iload 5, 2) := by decide +kernel
theorem dX10_number_71 : decode cX10_number 71 = .ok (.i2l, 1) := by decide +kernel
theorem dX10_number_72 : decode cX10_number 72 = .ok (.lconst 0, 1) := by decide +kernel
theorem dX10_number_73 : decode cX10_number 73 = .ok (.ldc2_w 105, 3) := by decide +kernel
theorem dX10_number_76 : decode cX10_number 76 = .ok (.invokestatic 91, 3) := by decide +kernel
theorem dX10_number_79 : decode cX10_number 79 = .ok (.ifCond .eq 14, 3) := by decide +kernel
theorem dX10_number_82 : decode cX10_number 82 = .ok (.iload 4, 2) := by decide +kernel
theorem dX10_number_84 : decode cX10_number 84 = .ok (.iload 5, 2) := by decide +kernel
theorem dX10_number_86 : decode cX10_number 86 = .ok (.iload_n 3, 1) := by decide +kernel
theorem dX10_number_87 : decode cX10_number 87 = .ok (.imul, 1) := by decide +kernel
theorem dX10_number_88 : decode cX10_number 88 = .ok (.iadd, 1) := by decide +kernel
theorem dX10_number_89 : decode cX10_number 89 = .ok (.iload_n 2, 1) := by decide +kernel
theorem dX10_number_90 : decode cX10_number 90 = .ok (.if_icmp .le 6, 3) := by decide +kernel
theorem dX10_number_93 : decode cX10_number 93 = .ok (.ldc 53, 2) := by decide +kernel
theorem dX10_number_95 : decode cX10_number 95 = .ok (.ireturn, 1) := by decide +kernel
theorem dX10_number_96 : decode cX10_number 96 = .ok (.iload 4, 2) := by decide +kernel
theorem dX10_number_98 : decode cX10_number 98 = .ok (.iload 5, 2) := by decide +kernel
theorem dX10_number_100 : decode cX10_number 100 = .ok (.iload_n 3, 1) := by decide +kernel
theorem dX10_number_101 : decode cX10_number 101 = .ok (.imul, 1) := by decide +kernel
theorem dX10_number_102 : decode cX10_number 102 = .ok (.iadd, 1) := by decide +kernel
theorem dX10_number_103 : decode cX10_number 103 = .ok (.istore 4, 2) := by decide +kernel
theorem dX10_number_105 : decode cX10_number 105 = .ok (.iload_n 3, 1) := by decide +kernel
theorem dX10_number_106 : decode cX10_number 106 = .ok (.bipush 10, 2) := by decide +kernel
theorem dX10_number_108 : decode cX10_number 108 = .ok (.idiv, 1) := by decide +kernel
theorem dX10_number_109 : decode cX10_number 109 = .ok (.istore_n 3, 1) := by decide +kernel
theorem dX10_number_110 : decode cX10_number 110 = .ok (.aload_n 0, 1) := by decide +kernel
theorem dX10_number_111 : decode cX10_number 111 = .ok (.dup, 1) := by decide +kernel
theorem dX10_number_112 : decode cX10_number 112 = .ok (.getfield 102, 3) := by decide +kernel
theorem dX10_number_115 : decode cX10_number 115 = .ok (.iconst 1, 1) := by decide +kernel
theorem dX10_number_116 : decode cX10_number 116 = .ok (.iadd, 1) := by decide +kernel
theorem dX10_number_117 : decode cX10_number 117 = .ok (.putfield 102, 3) := by decide +kernel
theorem dX10_number_120 : decode cX10_number 120 = .ok (.goto (-84), 3) := by decide +kernel
theorem dX10_number_123 : decode cX10_number 123 = .ok (.iload 4, 2) := by decide +kernel
theorem dX10_number_125 : decode cX10_number 125 = .ok (.ireturn, 1) := by decide +kernel
set_option maxRecDepth 20000 in
theorem ggX10_readAlarm_X10_number : GoodIn wsX10_readAlarm wsX10_number := goodIn_r _ [7, 8, 9, 10, 11, 1, 12, 13, 6, 14, 15, 16, 17, 18, 19, 20, 21, 22, 23, 24, 25, 26, 27, 28, 29] (by decide +kernel) (by decide +kernel)
set_option maxRecDepth 20000 in
theorem gX10_readAlarm_X10_number : GoodIn wsX10_readAlarm (wsV RX10 107 RX10 yX10_number wsX10_number) := goodIn_app (goodIn_of _ (by decide +kernel)) ggX10_readAlarm_X10_number
theorem dX10_readAlarm_0 : decode cX10_readAlarm 0 = .ok (.aload_n 0, 1) := by decide +kernel
theorem dX10_readAlarm_1 : decode cX10_readAlarm 1 = .ok (.iconst 2, 1) := by decide +kernel
theorem dX10_readAlarm_2 : decode cX10_readAlarm 2 = .ok (.bipush 23, 2) := by decide +kernel
theorem dX10_readAlarm_4 : decode cX10_readAlarm 4 = .ok (.invokevirtual 107, 3) := by decide +kernel
theorem dX10_readAlarm_7 : decode cX10_readAlarm 7 = .ok (.istore_n 2, 1) := by decide +kernel
theorem dX10_readAlarm_8 : decode cX10_readAlarm 8 = .ok (.iload_n 2, 1) := by decide +kernel
theorem dX10_readAlarm_9 : decode cX10_readAlarm 9 = .ok (.ldc 53, 2) := by decide +kernel
theorem dX10_readAlarm_11 : decode cX10_readAlarm 11 = .ok (.if_icmp .ne 8, 3) := by decide +kernel
theorem dX10_readAlarm_14 : decode cX10_readAlarm 14 = .ok (.ldc 53, 2) := by decide +kernel
theorem dX10_readAlarm_16 : decode cX10_readAlarm 16 = .ok (.goto 10, 3) := by decide +kernel
theorem dX10_readAlarm_19 : decode cX10_readAlarm 19 = .ok (.aload_n 0, 1) := by decide +kernel
theorem dX10_readAlarm_20 : decode cX10_readAlarm 20 = .ok (.iconst 2, 1) := by decide +kernel
theorem dX10_readAlarm_21 : decode cX10_readAlarm 21 = .ok (.bipush 59, 2) := by decide +kernel
theorem dX10_readAlarm_23 : decode cX10_readAlarm 23 = .ok (.invokevirtual 107, 3) := by decide +kernel
theorem dX10_readAlarm_26 : decode cX10_readAlarm 26 = .ok (.istore_n 3, 1) := by decide +kernel
theorem dX10_readAlarm_27 : decode cX10_readAlarm 27 = .ok (.aload_n 0, 1) := by decide +kernel
theorem dX10_readAlarm_28 : decode cX10_readAlarm 28 = .ok (.getfield 13, 3) := by decide +kernel
theorem dX10_readAlarm_31 : decode cX10_readAlarm 31 = .ok (.bipush 27, 2) := by decide +kernel
theorem dX10_readAlarm_33 : decode cX10_readAlarm 33 = .ok (.iconst 3, 1) := by decide +kernel
theorem dX10_readAlarm_34 : decode cX10_readAlarm 34 = .ok (.iload_n 1, 1) := by decide +kernel
theorem dX10_readAlarm_35 : decode cX10_readAlarm 35 = .ok (.imul, 1) := by decide +kernel
theorem dX10_readAlarm_36 : decode cX10_readAlarm 36 = .ok (.iadd, 1) := by decide +kernel
theorem dX10_readAlarm_37 : decode cX10_readAlarm 37 = .ok (.iload_n 3, 1) := by decide +kernel
theorem dX10_readAlarm_38 : decode cX10_readAlarm 38 = .ok (.ldc 53, 2) := by decide +kernel
theorem dX10_readAlarm_40 : decode cX10_readAlarm 40 = .ok (.if_icmp .ne 8, 3) := by decide +kernel
theorem dX10_readAlarm_43 : decode cX10_readAlarm 43 = .ok (.ldc 53, 2) := by decide +kernel
theorem dX10_readAlarm_45 : decode cX10_readAlarm 45 = .ok (.goto 9, 3) := by decide +kernel
theorem dX10_readAlarm_48 : decode cX10_readAlarm 48 = .ok (.bipush 60, 2) := by decide +kernel
theorem dX10_readAlarm_50 : decode cX10_readAlarm 50 = .ok (.iload_n 2, 1) := by decide +kernel
theorem dX10_readAlarm_51 : decode cX10_readAlarm 51 = .ok (.imul, 1) := by decide +kernel
theorem dX10_readAlarm_52 : decode cX10_readAlarm 52 = .ok (.iload_n 3, 1) := by decide +kernel
theorem dX10_readAlarm_53 : decode cX10_readAlarm 53 = .ok (.iadd, 1) := by decide +kernel
theorem dX10_readAlarm_54 : decode cX10_readAlarm 54 = .ok (.iastore, 1) := by decide +kernel
theorem dX10_readAlarm_55 : decode cX10_readAlarm 55 = .ok (.iload_n 3, 1) := by decide +kernel
theorem dX10_readAlarm_56 : decode cX10_readAlarm 56 = .ok (.ldc 53, 2) := by decide +kernel
theorem dX10_readAlarm_58 : decode cX10_readAlarm 58 = .ok (.if_icmp .eq 7, 3) := by decide +kernel
theorem dX10_readAlarm_61 : decode cX10_readAlarm 61 = .ok (.iconst 1, 1) := by decide +kernel
theorem dX10_readAlarm_62 : decode cX10_readAlarm 62 = .ok (.goto 4, 3) := by decide +kernel
theorem dX10_readAlarm_65 : decode cX10_readAlarm 65 = .ok (.iconst 0, 1) := by decide +kernel
theorem dX10_readAlarm_66 : decode cX10_readAlarm 66 = .ok (.ireturn, 1) := by decide +kernel
set_option maxRecDepth 20000 in
theorem ggX10_fresh_X10_number : GoodIn wsX10_fresh wsX10_number := goodIn_r _ [7, 2, 8, 9, 10, 1, 11, 12, 6, 13, 14, 15, 16, 17, 18, 19, 20, 21, 22, 23, 24, 25, 26, 27, 28] (by decide +kernel) (by decide +kernel)
set_option maxRecDepth 20000 in
theorem gX10_fresh_X10_number : GoodIn wsX10_fresh (wsV RX10 107 RX10 yX10_number wsX10_number) := goodIn_app (goodIn_of _ (by decide +kernel)) ggX10_fresh_X10_number
theorem dX10_fresh_0 : decode cX10_fresh 0 = .ok (.aload_n 0, 1) := by decide +kernel
theorem dX10_fresh_1 : decode cX10_fresh 1 = .ok (.iconst 1, 1) := by decide +kernel
theorem dX10_fresh_2 : decode cX10_fresh 2 = .ok (.iload_n 2, 1) := by decide +kernel
theorem dX10_fresh_3 : decode cX10_fresh 3 = .ok (.invokevirtual 107, 3) := by decide +kernel
theorem dX10_fresh_6 : decode cX10_fresh 6 = .ok (.istore_n 3, 1) := by decide +kernel
theorem dX10_fresh_7 : decode cX10_fresh 7 = .ok (.iload_n 3, 1) := by decide +kernel
theorem dX10_fresh_8 : decode cX10_fresh 8 = .ok (.ldc 53, 2) := by decide +kernel
theorem dX10_fresh_10 : decode cX10_fresh 10 = .ok (.if_icmp .eq 25, 3) := by decide +kernel
theorem dX10_fresh_13 : decode cX10_fresh 13 = .ok (.iload_n 1, 1) := by decide +kernel
theorem dX10_fresh_14 : decode cX10_fresh 14 = .ok (.iload_n 3, 1) := by decide +kernel
theorem dX10_fresh_15 : decode cX10_fresh 15 = .ok (.ishr, 1) := by decide +kernel
theorem dX10_fresh_16 : decode cX10_fresh 16 = .ok (.iconst 1, 1) := by decide +kernel
theorem dX10_fresh_17 : decode cX10_fresh 17 = .ok (.iand, 1) := by decide +kernel
theorem dX10_fresh_18 : decode cX10_fresh 18 = .ok (.iconst 1, 1) := by decide +kernel
theorem dX10_fresh_19 : decode cX10_fresh 19 = .ok (.if_icmp .ne 16, 3) := by decide +kernel
theorem dX10_fresh_22 : decode cX10_fresh 22 = .ok (.aload_n 0, 1) := by decide +kernel
theorem dX10_fresh_23 : decode cX10_fresh 23 = .ok (.dup, 1) := by decide +kernel
theorem dX10_fresh_24 : decode cX10_fresh 24 = .ok (.getfield 102, 3) := by decide +kernel
theorem dX10_fresh_27 : decode cX10_fresh 27 = .ok (.iconst 1, 1) := by decide +kernel
theorem dX10_fresh_28 : decode cX10_fresh 28 = .ok (.isub, 1) := by decide +kernel
theorem dX10_fresh_29 : decode cX10_fresh 29 = .ok (.putfield 102, 3) := by decide +kernel
theorem dX10_fresh_32 : decode cX10_fresh 32 = .ok (.ldc 53, 2) := by decide +kernel
theorem dX10_fresh_34 : decode cX10_fresh 34 = .ok (.ireturn, 1) := by decide +kernel
theorem dX10_fresh_35 : decode cX10_fresh 35 = .ok (.iload_n 3, 1) := by decide +kernel
theorem dX10_fresh_36 : decode cX10_fresh 36 = .ok (.ireturn, 1) := by decide +kernel
set_option maxRecDepth 20000 in
theorem ggX10_readAll_X10_begin : GoodIn wsX10_readAll wsX10_begin := goodIn_r _ [8, 3] (by decide +kernel) (by decide +kernel)
set_option maxRecDepth 20000 in
theorem gX10_readAll_X10_begin : GoodIn wsX10_readAll (va_wsS RX10 45 yX10_begin wsX10_begin) := goodIn_app (goodIn_of _ (by decide +kernel)) ggX10_readAll_X10_begin
set_option maxRecDepth 20000 in
theorem ggX10_readAll_X10_eat : GoodIn wsX10_readAll wsX10_eat := goodIn_r _ [12, 1, 4, 13, 30, 31, 32, 33, 34, 35, 36, 37, 38, 39, 40, 41, 42, 43, 44] (by decide +kernel) (by decide +kernel)
set_option maxRecDepth 20000 in
theorem gX10_readAll_X10_eat : GoodIn wsX10_readAll (wsV RX10 111 RX10 yX10_eat wsX10_eat) := goodIn_app (goodIn_of _ (by decide +kernel)) ggX10_readAll_X10_eat
set_option maxRecDepth 20000 in
theorem ggX10_readAll_X10_number : GoodIn wsX10_readAll wsX10_number := goodIn_r _ [17, 1, 4, 13, 18, 3, 19, 20, 7, 21, 30, 31, 32, 33, 34, 35, 36, 37, 38, 39, 40, 41, 42, 43, 44] (by decide +kernel) (by decide +kernel)
set_option maxRecDepth 20000 in
theorem gX10_readAll_X10_number : GoodIn wsX10_readAll (wsV RX10 107 RX10 yX10_number wsX10_number) := goodIn_app (goodIn_of _ (by decide +kernel)) ggX10_readAll_X10_number
set_option maxRecDepth 20000 in
theorem ggX10_readAll_X10_readAlarm : GoodIn wsX10_readAll wsX10_readAlarm := goodIn_r _ [25, 3, 2, 14, 15, 16, 7, 17, 1, 4, 13, 18, 19, 20, 21, 30, 31, 32, 33, 34, 35, 36, 37, 38, 39, 40, 41, 42, 43, 44] (by decide +kernel) (by decide +kernel)
set_option maxRecDepth 20000 in
theorem gX10_readAll_X10_readAlarm : GoodIn wsX10_readAll (wsV RX10 114 RX10 yX10_readAlarm wsX10_readAlarm) := goodIn_app (goodIn_of _ (by decide +kernel)) ggX10_readAll_X10_readAlarm
set_option maxRecDepth 20000 in
theorem ggX10_readAll_X10_fresh : GoodIn wsX10_readAll wsX10_fresh := goodIn_r _ [29, 3, 1, 14, 15, 16, 7, 17, 4, 13, 18, 19, 20, 21, 30, 31, 32, 33, 34, 35, 36, 37, 38, 39, 40, 41, 42, 43, 44] (by decide +kernel) (by decide +kernel)
set_option maxRecDepth 20000 in
theorem gX10_readAll_X10_fresh : GoodIn wsX10_readAll (wsV RX10 117 RX10 yX10_fresh wsX10_fresh) := goodIn_app (goodIn_of _ (by decide +kernel)) ggX10_readAll_X10_fresh
theorem dX10_readAll_0 : decode cX10_readAll 0 = .ok (.aload_n 0, 1) := by decide +kernel
theorem dX10_readAll_1 : decode cX10_readAll 1 = .ok (.iconst 0, 1) := by decide +kernel
theorem dX10_readAll_2 : decode cX10_readAll 2 = .ok (.putfield 102, 3) := by decide +kernel
theorem dX10_readAll_5 : decode cX10_readAll 5 = .ok (.aload_n 0, 1) := by decide +kernel
theorem dX10_readAll_6 : decode cX10_readAll 6 = .ok (.getfield 13, 3) := by decide +kernel
theorem dX10_readAll_9 : decode cX10_readAll 9 = .ok (.invokestatic 45, 3) := by decide +kernel
theorem dX10_readAll_12 : decode cX10_readAll 12 = .ok (.aload_n 0, 1) := by decide +kernel
theorem dX10_readAll_13 : decode cX10_readAll 13 = .ok (.bipush 75, 2) := by decide +kernel
theorem dX10_readAll_15 : decode cX10_readAll 15 = .ok (.invokevirtual 111, 3) := by decide +kernel
theorem dX10_readAll_18 : decode cX10_readAll 18 = .ok (.ifCond .ne 5, 3) := by decide +kernel
theorem dX10_readAll_21 : decode cX10_readAll 21 = .ok (.iconst 0, 1) := by decide +kernel
theorem dX10_readAll_22 : decode cX10_readAll 22 = .ok (.ireturn, 1) := by decide +kernel
theorem dX10_readAll_23 : decode cX10_readAll 23 = .ok (.aload_n 0, 1) := by decide +kernel
theorem dX10_readAll_24 : decode cX10_readAll 24 = .ok (.bipush 45, 2) := by decide +kernel
theorem dX10_readAll_26 : decode cX10_readAll 26 = .ok (.invokevirtual 111, 3) := by decide +kernel
theorem dX10_readAll_29 : decode cX10_readAll 29 = .ok (.istore_n 1, 1) := by decide +kernel
theorem dX10_readAll_30 : decode cX10_readAll 30 = .ok (.iload_n 1, 1) := by decide +kernel
theorem dX10_readAll_31 : decode cX10_readAll 31 = .ok (.ifCond .ne 14, 3) := by decide +kernel
theorem dX10_readAll_34 : decode cX10_readAll 34 = .ok (.aload_n 0, 1) := by decide +kernel
theorem dX10_readAll_35 : decode cX10_readAll 35 = .ok (.bipush 43, 2) := by decide +kernel
theorem dX10_readAll_37 : decode cX10_readAll 37 = .ok (.invokevirtual 111, 3) := by decide +kernel
theorem dX10_readAll_40 : decode cX10_readAll 40 = .ok (.ifCond .ne 5, 3) := by decide +kernel
theorem dX10_readAll_43 : decode cX10_readAll 43 = .ok (.iconst 0, 1) := by decide +kernel
theorem dX10_readAll_44 : decode cX10_readAll 44 = .ok (.ireturn, 1) := by decide +kernel
theorem dX10_readAll_45 : decode cX10_readAll 45 = .ok (.aload_n 0, 1) := by decide +kernel
theorem dX10_readAll_46 : decode cX10_readAll 46 = .ok (.iconst 3, 1) := by decide +kernel
theorem dX10_readAll_47 : decode cX10_readAll 47 = .ok (.sipush 500, 3) := by decide +kernel
theorem dX10_readAll_50 : decode cX10_readAll 50 = .ok (.invokevirtual 107, 3) := by decide +kernel
theorem dX10_readAll_53 : decode cX10_readAll 53 = .ok (.istore_n 2, 1) := by decide +kernel
theorem dX10_readAll_54 : decode cX10_readAll 54 = .ok (.iload_n 2, 1) := by decide +kernel
theorem dX10_readAll_55 : decode cX10_readAll 55 = .ok (.ldc 53, 2) := by decide +kernel
theorem dX10_readAll_57 : decode cX10_readAll 57 = .ok (.if_icmp .ne 8, 3) := by decide +kernel
theorem dX10_readAll_60 : decode cX10_readAll 60 = .ok (.ldc 53, 2) := by decide +kernel
theorem dX10_readAll_62 : decode cX10_readAll 62 = .ok (.goto 11, 3) := by decide +kernel
theorem dX10_readAll_65 : decode cX10_readAll 65 = .ok (.aload_n 0, 1) := by decide +kernel
theorem dX10_readAll_66 : decode cX10_readAll 66 = .ok (.iconst 4, 1) := by decide +kernel
theorem dX10_readAll_67 : decode cX10_readAll 67 = .ok (.sipush 9999, 3) := by decide +kernel
theorem dX10_readAll_70 : decode cX10_readAll 70 = .ok (.invokevirtual 107, 3) := by decide +kernel
theorem dX10_readAll_73 : decode cX10_readAll 73 = .ok (.istore_n 3, 1) := by decide +kernel
theorem dX10_readAll_74 : decode cX10_readAll 74 = .ok (.iload_n 3, 1) := by decide +kernel
theorem dX10_readAll_75 : decode cX10_readAll 75 = .ok (.ldc 53, 2) := by decide +kernel
theorem dX10_readAll_77 : decode cX10_readAll 77 = .ok (.if_icmp .ne 5, 3) := by decide +kernel
theorem dX10_readAll_80 : decode cX10_readAll 80 = .ok (.iconst 0, 1) := by decide +kernel
theorem dX10_readAll_81 : decode cX10_readAll 81 = .ok (.ireturn, 1) := by decide +kernel
theorem dX10_readAll_82 : decode cX10_readAll 82 = .ok (.aload_n 0, 1) := by decide +kernel
theorem dX10_readAll_83 : decode cX10_readAll 83 = .ok (.getfield 13, 3) := by decide +kernel
theorem dX10_readAll_86 : decode cX10_readAll 86 = .ok (.iconst 3, 1) := by decide +kernel
theorem dX10_readAll_87 : decode cX10_readAll 87 = .ok (.iload_n 1, 1) := by decide +kernel
theorem dX10_readAll_88 : decode cX10_readAll 88 = .ok (.ifCond .eq 8, 3) := by decide +kernel
theorem dX10_readAll_91 : decode cX10_readAll 91 = .ok (.iload_n 2, 1) := by decide +kernel
theorem dX10_readAll_92 : decode cX10_readAll 92 = .ok (.ineg, 1) := by decide +kernel
theorem dX10_readAll_93 : decode cX10_readAll 93 = .ok (.goto 4, 3) := by decide +kernel
theorem dX10_readAll_96 : decode cX10_readAll 96 = .ok (.iload_n 2, 1) := by decide +kernel
theorem dX10_readAll_97 : decode cX10_readAll 97 = .ok (.iastore, 1) := by decide +kernel
theorem dX10_readAll_98 : decode cX10_readAll 98 = .ok (.aload_n 0, 1) := by decide +kernel
theorem dX10_readAll_99 : decode cX10_readAll 99 = .ok (.getfield 13, 3) := by decide +kernel
theorem dX10_readAll_102 : decode cX10_readAll 102 = .ok (.bipush 7, 2) := by decide +kernel
theorem dX10_readAll_104 : decode cX10_readAll 104 = .ok (.iload_n 3, 1) := by decide +kernel
theorem dX10_readAll_105 : decode cX10_readAll 105 = .ok (.iastore, 1) := by decide +kernel
theorem dX10_readAll_106 : decode cX10_readAll 106 = .ok (.iconst 0, 1) := by decide +kernel
theorem dX10_readAll_107 : decode cX10_readAll 107 = .ok (.istore 4, 2) := by decide +kernel
theorem dX10_readAll_109 : decode cX10_readAll 109 = .ok (.iconst 0, 1) := by decide +kernel
theorem dX10_readAll_110 : decode cX10_readAll 110 = .ok (.istore 5, 2) := by decide +kernel
theorem dX10_readAll_112 : decode cX10_readAll 112 = .ok (.iconst 0, 1) := by decide +kernel
theorem dX10_readAll_113 : decode cX10_readAll 113 = .ok (.istore 6, 2) := by decide +kernel
theorem dX10_readAll_115 : decode cX10_readAll 115 = .ok (.aload_n 0, 1) := by decide +kernel
theorem dX10_readAll_116 : decode cX10_readAll 116 = .ok (.getfield 102, 3) := by decide +kernel
theorem dX10_readAll_119 : decode cX10_readAll 119 = .ok (.aload_n 0, 1) := by decide +kernel
theorem dX10_readAll_120 : decode cX10_readAll 120 = .ok (.getfield 95, 3) := by decide +kernel
theorem dX10_readAll_123 : decode cX10_readAll 123 = .ok (.if_icmp .ge 176, 3) := by decide +kernel
theorem dX10_readAll_126 : decode cX10_readAll 126 = .ok (.iload 4, 2) := by decide +kernel
theorem dX10_readAll_128 : decode cX10_readAll 128 = .ok (.iconst 4, 1) := by decide +kernel
theorem dX10_readAll_129 : decode cX10_readAll 129 = .ok (.if_icmp .ge 29, 3) := by decide +kernel
theorem dX10_readAll_132 : decode cX10_readAll 132 = .ok (.aload_n 0, 1) := by decide +kernel
theorem dX10_readAll_133 : decode cX10_readAll 133 = .ok (.bipush 97, 2) := by decide +kernel
theorem dX10_readAll_135 : decode cX10_readAll 135 = .ok (.invokevirtual 111, 3) := by decide +kernel
theorem dX10_readAll_138 : decode cX10_readAll 138 = .ok (.ifCond .eq 20, 3) := by decide +kernel
theorem dX10_readAll_141 : decode cX10_readAll 141 = .ok (.aload_n 0, 1) := by decide +kernel
theorem dX10_readAll_142 : decode cX10_readAll 142 = .ok (.iload 4, 2) := by decide +kernel
theorem dX10_readAll_144 : decode cX10_readAll 144 = .ok (.invokevirtual 114, 3) := by decide +kernel
theorem dX10_readAll_147 : decode cX10_readAll 147 = .ok (.ifCond .ne 5, 3) := by decide +kernel
theorem dX10_readAll_150 : decode cX10_readAll 150 = .ok (.iconst 0, 1) := by decide +kernel
theorem dX10_readAll_151 : decode cX10_readAll 151 = .ok (.ireturn, 1) := by decide +kernel
theorem dX10_readAll_152 : decode cX10_readAll 152 = .ok (.iinc 4 1, 3) := by decide +kernel
theorem dX10_readAll_155 : decode cX10_readAll 155 = .ok (.goto (-40), 3) := by decide +kernel
theorem dX10_readAll_158 : decode cX10_readAll 158 = .ok (.iload 5, 2) := by decide +kernel
theorem dX10_readAll_160 : decode cX10_readAll 160 = .ok (.bipush 7, 2) := by decide +kernel
theorem dX10_readAll_162 : decode cX10_readAll 162 = .ok (.if_icmp .eq 53, 3) := by decide +kernel
theorem dX10_readAll_165 : decode cX10_readAll 165 = .ok (.aload_n 0, 1) := by decide +kernel
theorem dX10_readAll_166 : decode cX10_readAll 166 = .ok (.bipush 112, 2) := by decide +kernel
theorem dX10_readAll_168 : decode cX10_readAll 168 = .ok (.invokevirtual 111, 3) := by decide +kernel
theorem dX10_readAll_171 : decode cX10_readAll 171 = .ok (.ifCond .eq 44, 3) := by decide +kernel
theorem dX10_readAll_174 : decode cX10_readAll 174 = .ok (.aload_n 0, 1) := by decide +kernel
theorem dX10_readAll_175 : decode cX10_readAll 175 = .ok (.iload 5, 2) := by decide +kernel
theorem dX10_readAll_177 : decode cX10_readAll 177 = .ok (.iconst 2, 1) := by decide +kernel
theorem dX10_readAll_178 : decode cX10_readAll 178 = .ok (.invokevirtual 117, 3) := by decide +kernel
theorem dX10_readAll_181 : decode cX10_readAll 181 = .ok (.istore 7, 2) := by decide +kernel
theorem dX10_readAll_183 : decode cX10_readAll 183 = .ok (.iload 7, 2) := by decide +kernel
theorem dX10_readAll_185 : decode cX10_readAll 185 = .ok (.ldc 53, 2) := by decide +kernel
theorem dX10_readAll_187 : decode cX10_readAll 187 = .ok (.if_icmp .ne 5, 3) := by decide +kernel
theorem dX10_readAll_190 : decode cX10_readAll 190 = .ok (.iconst 0, 1) := by decide +kernel
theorem dX10_readAll_191 : decode cX10_readAll 191 = .ok (.ireturn, 1) := by decide +kernel
theorem dX10_readAll_192 : decode cX10_readAll 192 = .ok (.iload 5, 2) := by decide +kernel
theorem dX10_readAll_194 : decode cX10_readAll 194 = .ok (.iconst 1, 1) := by decide +kernel
theorem dX10_readAll_195 : decode cX10_readAll 195 = .ok (.iload 7, 2) := by decide +kernel
theorem dX10_readAll_197 : decode cX10_readAll 197 = .ok (.ishl, 1) := by decide +kernel
theorem dX10_readAll_198 : decode cX10_readAll 198 = .ok (.ior, 1) := by decide +kernel
theorem dX10_readAll_199 : decode cX10_readAll 199 = .ok (.istore 5, 2) := by decide +kernel
theorem dX10_readAll_201 : decode cX10_readAll 201 = .ok (.aload_n 0, 1) := by decide +kernel
theorem dX10_readAll_202 : decode cX10_readAll 202 = .ok (.getfield 13, 3) := by decide +kernel
theorem dX10_readAll_205 : decode cX10_readAll 205 = .ok (.bipush 24, 2) := by decide +kernel
theorem dX10_readAll_207 : decode cX10_readAll 207 = .ok (.iload 7, 2) := by decide +kernel
theorem dX10_readAll_209 : decode cX10_readAll 209 = .ok (.iadd, 1) := by decide +kernel
theorem dX10_readAll_210 : decode cX10_readAll 210 = .ok (.iconst 1, 1) := by decide +kernel
theorem dX10_readAll_211 : decode cX10_readAll 211 = .ok (.iastore, 1) := by decide +kernel
theorem dX10_readAll_212 : decode cX10_readAll 212 = .ok (.goto (-97), 3) := by decide +kernel
theorem dX10_readAll_215 : decode cX10_readAll 215 = .ok (.iload 6, 2) := by decide +kernel
theorem dX10_readAll_217 : decode cX10_readAll 217 = .ok (.sipush 255, 3) := by decide +kernel
theorem dX10_readAll_220 : decode cX10_readAll 220 = .ok (.if_icmp .eq 77, 3) := by decide +kernel
theorem dX10_readAll_223 : decode cX10_readAll 223 = .ok (.aload_n 0, 1) := by decide +kernel
theorem dX10_readAll_224 : decode cX10_readAll 224 = .ok (.bipush 114, 2) := by decide +kernel
theorem dX10_readAll_226 : decode cX10_readAll 226 = .ok (.invokevirtual 111, 3) := by decide +kernel
theorem dX10_readAll_229 : decode cX10_readAll 229 = .ok (.ifCond .eq 68, 3) := by decide +kernel
theorem dX10_readAll_232 : decode cX10_readAll 232 = .ok (.aload_n 0, 1) := by decide +kernel
theorem dX10_readAll_233 : decode cX10_readAll 233 = .ok (.iload 6, 2) := by decide +kernel
theorem dX10_readAll_235 : decode cX10_readAll 235 = .ok (.bipush 7, 2) := by decide +kernel
theorem dX10_readAll_237 : decode cX10_readAll 237 = .ok (.invokevirtual 117, 3) := by decide +kernel
theorem dX10_readAll_240 : decode cX10_readAll 240 = .ok (.istore 7, 2) := by decide +kernel
theorem dX10_readAll_242 : decode cX10_readAll 242 = .ok (.iload 7, 2) := by decide +kernel
theorem dX10_readAll_244 : decode cX10_readAll 244 = .ok (.ldc 53, 2) := by decide +kernel
theorem dX10_readAll_246 : decode cX10_readAll 246 = .ok (.if_icmp .ne 8, 3) := by decide +kernel
theorem dX10_readAll_249 : decode cX10_readAll 249 = .ok (.ldc 53, 2) := by decide +kernel
theorem dX10_readAll_251 : decode cX10_readAll 251 = .ok (.goto 11, 3) := by decide +kernel
theorem dX10_readAll_254 : decode cX10_readAll 254 = .ok (.aload_n 0, 1) := by decide +kernel
theorem dX10_readAll_255 : decode cX10_readAll 255 = .ok (.iconst 3, 1) := by decide +kernel
theorem dX10_readAll_256 : decode cX10_readAll 256 = .ok (.sipush 255, 3) := by decide +kernel
theorem dX10_readAll_259 : decode cX10_readAll 259 = .ok (.invokevirtual 107, 3) := by decide +kernel
theorem dX10_readAll_262 : decode cX10_readAll 262 = .ok (.istore 8, 2) := by decide +kernel
theorem dX10_readAll_264 : decode cX10_readAll 264 = .ok (.iload 8, 2) := by decide +kernel
theorem dX10_readAll_266 : decode cX10_readAll 266 = .ok (.ldc 53, 2) := by decide +kernel
theorem dX10_readAll_268 : decode cX10_readAll 268 = .ok (.if_icmp .ne 5, 3) := by decide +kernel
theorem dX10_readAll_271 : decode cX10_readAll 271 = .ok (.iconst 0, 1) := by decide +kernel
theorem dX10_readAll_272 : decode cX10_readAll 272 = .ok (.ireturn, 1) := by decide +kernel
theorem dX10_readAll_273 : decode cX10_readAll 273 = .ok (.iload 6, 2) := by decide +kernel
theorem dX10_readAll_275 : decode cX10_readAll 275 = .ok (.iconst 1, 1) := by decide +kernel
theorem dX10_readAll_276 : decode cX10_readAll 276 = .ok (.iload 7, 2) := by decide +kernel
theorem dX10_readAll_278 : decode cX10_readAll 278 = .ok (.ishl, 1) := by decide +kernel
theorem dX10_readAll_279 : decode cX10_readAll 279 = .ok (.ior, 1) := by decide +kernel
theorem dX10_readAll_280 : decode cX10_readAll 280 = .ok (.istore 6, 2) := by decide +kernel
theorem dX10_readAll_282 : decode cX10_readAll 282 = .ok (.aload_n 0, 1) := by decide +kernel
theorem dX10_readAll_283 : decode cX10_readAll 283 = .ok (.getfield 13, 3) := by decide +kernel
theorem dX10_readAll_286 : decode cX10_readAll 286 = .ok (.bipush 16, 2) := by decide +kernel
theorem dX10_readAll_288 : decode cX10_readAll 288 = .ok (.iload 7, 2) := by decide +kernel
theorem dX10_readAll_290 : decode cX10_readAll 290 = .ok (.iadd, 1) := by decide +kernel
theorem dX10_readAll_291 : decode cX10_readAll 291 = .ok (.iload 8, 2) := by decide +kernel
theorem dX10_readAll_293 : decode cX10_readAll 293 = .ok (.iastore, 1) := by decide +kernel
theorem dX10_readAll_294 : decode cX10_readAll 294 = .ok (.goto (-179), 3) := by decide +kernel
theorem dX10_readAll_297 : decode cX10_readAll 297 = .ok (.iconst 0, 1) := by decide +kernel
theorem dX10_readAll_298 : decode cX10_readAll 298 = .ok (.ireturn, 1) := by decide +kernel
theorem dX10_readAll_299 : decode cX10_readAll 299 = .ok (.iconst 1, 1) := by decide +kernel
theorem dX10_readAll_300 : decode cX10_readAll 300 = .ok (.ireturn, 1) := by decide +kernel
set_option maxRecDepth 20000 in
theorem ggX10_errorPosition_X10_readAll : GoodIn wsX10_errorPosition wsX10_readAll := goodIn_r _ [8, 3, 9, 2, 10, 11, 12, 7, 13, 14, 15, 16, 17, 18, 19, 20, 21, 22, 23, 24, 25, 26, 27, 28, 29, 30, 31, 32, 33, 34, 35, 36, 37, 38, 39, 40, 41, 42, 43, 44, 45, 46, 47, 48, 49] (by decide +kernel) (by decide +kernel)
set_option maxRecDepth 20000 in
theorem gX10_errorPosition_X10_readAll : GoodIn wsX10_errorPosition (wsV RX10 120 RX10 yX10_readAll wsX10_readAll) := goodIn_app (goodIn_of _ (by decide +kernel)) ggX10_errorPosition_X10_readAll
theorem dX10_errorPosition_0 : decode cX10_errorPosition 0 = .ok (.aload_n 0, 1) := by decide +kernel
theorem dX10_errorPosition_1 : decode cX10_errorPosition 1 = .ok (.iconst 0, 1) := by decide +kernel
theorem dX10_errorPosition_2 : decode cX10_errorPosition 2 = .ok (.putfield 49, 3) := by decide +kernel
theorem dX10_errorPosition_5 : decode cX10_errorPosition 5 = .ok (.aload_n 0, 1) := by decide +kernel
theorem dX10_errorPosition_6 : decode cX10_errorPosition 6 = .ok (.invokevirtual 120, 3) := by decide +kernel
theorem dX10_errorPosition_9 : decode cX10_errorPosition 9 = .ok (.ifCond .eq 8, 3) := by decide +kernel
theorem dX10_errorPosition_12 : decode cX10_errorPosition 12 = .ok (.ldc 53, 2) := by decide +kernel
theorem dX10_errorPosition_14 : decode cX10_errorPosition 14 = .ok (.goto 7, 3) := by decide +kernel
theorem dX10_errorPosition_17 : decode cX10_errorPosition 17 = .ok (.aload_n 0, 1) := by decide +kernel
theorem dX10_errorPosition_18 : decode cX10_errorPosition 18 = .ok (.getfield 102, 3) := by decide +kernel
theorem dX10_errorPosition_21 : decode cX10_errorPosition 21 = .ok (.ireturn, 1) := by decide +kernel
theorem dX10_setMany_0 : decode cX10_setMany 0 = .ok (.iconst 0, 1) := by decide +kernel
theorem dX10_setMany_1 : decode cX10_setMany 1 = .ok (.istore_n 1, 1) := by decide +kernel
theorem dX10_setMany_2 : decode cX10_setMany 2 = .ok (.iconst 0, 1) := by decide +kernel
theorem dX10_setMany_3 : decode cX10_setMany 3 = .ok (.istore_n 2, 1) := by decide +kernel
theorem dX10_setMany_4 : decode cX10_setMany 4 = .ok (.iload_n 2, 1) := by decide +kernel
theorem dX10_setMany_5 : decode cX10_setMany 5 = .ok (.iconst 4, 1) := by decide +kernel
theorem dX10_setMany_6 : decode cX10_setMany 6 = .ok (.if_icmp .ge 30, 3) := by decide +kernel
theorem dX10_setMany_9 : decode cX10_setMany 9 = .ok (.iload_n 1, 1) := by decide +kernel
theorem dX10_setMany_10 : decode cX10_setMany 10 = .ok (.aload_n 0, 1) := by decide +kernel
theorem dX10_setMany_11 : decode cX10_setMany 11 = .ok (.bipush 27, 2) := by decide +kernel
theorem dX10_setMany_13 : decode cX10_setMany 13 = .ok (.iconst 3, 1) := by decide +kernel
theorem dX10_setMany_14 : decode cX10_setMany 14 = .ok (.iload_n 2, 1) := by decide +kernel
theorem dX10_setMany_15 : decode cX10_setMany 15 = .ok (.imul, 1) := by decide +kernel
theorem dX10_setMany_16 : decode cX10_setMany 16 = .ok (.iadd, 1) := by decide +kernel
theorem dX10_setMany_17 : decode cX10_setMany 17 = .ok (.iaload, 1) := by decide +kernel
theorem dX10_setMany_18 : decode cX10_setMany 18 = .ok (.ldc 53, 2) := by decide +kernel
theorem dX10_setMany_20 : decode cX10_setMany 20 = .ok (.if_icmp .ne 7, 3) := by decide +kernel
theorem dX10_setMany_23 : decode cX10_setMany 23 = .ok (.iconst 0, 1) := by decide +kernel
theorem dX10_setMany_24 : decode cX10_setMany 24 = .ok (.goto 4, 3) := by decide +kernel
theorem dX10_setMany_27 : decode cX10_setMany 27 = .ok (.iconst 1, 1) := by decide +kernel
theorem dX10_setMany_28 : decode cX10_setMany 28 = .ok (.iadd, 1) := by decide +kernel
theorem dX10_setMany_29 : decode cX10_setMany 29 = .ok (.istore_n 1, 1) := by decide +kernel
theorem dX10_setMany_30 : decode cX10_setMany 30 = .ok (.iinc 2 1, 3) := by decide +kernel
theorem dX10_setMany_33 : decode cX10_setMany 33 = .ok (.goto (-29), 3) := by decide +kernel
theorem dX10_setMany_36 : decode cX10_setMany 36 = .ok (.iload_n 1, 1) := by decide +kernel
theorem dX10_setMany_37 : decode cX10_setMany 37 = .ok (.ireturn, 1) := by decide +kernel
set_option maxRecDepth 20000 in
theorem ggX10_load_X10_readAll : GoodIn wsX10_load wsX10_readAll := goodIn_r _ [10, 11, 1, 12, 13, 14, 15, 9, 16, 17, 18, 19, 20, 21, 22, 23, 24, 25, 26, 27, 28, 29, 30, 31, 32, 33, 34, 35, 36, 37, 49, 50, 51, 52, 53, 54, 55, 56, 57, 58, 59, 60, 61, 62, 63] (by decide +kernel) (by decide +kernel)
set_option maxRecDepth 20000 in
theorem gX10_load_X10_readAll : GoodIn wsX10_load (wsV RX10 120 RX10 yX10_readAll wsX10_readAll) := goodIn_app (goodIn_of _ (by decide +kernel)) ggX10_load_X10_readAll
set_option maxRecDepth 20000 in
theorem ggX10_load_X10_refused : GoodIn wsX10_load wsX10_refused := goodIn_r _ [41, 42, 49, 50, 51, 52, 53, 54, 55, 56, 57, 58, 59, 60, 61, 62, 63] (by decide +kernel) (by decide +kernel)
set_option maxRecDepth 20000 in
theorem gX10_load_X10_refused : GoodIn wsX10_load (wsV RX10 98 RX10 yX10_refused wsX10_refused) := goodIn_app (goodIn_of _ (by decide +kernel)) ggX10_load_X10_refused
set_option maxRecDepth 20000 in
theorem ggX10_load_X10_copyPage : GoodIn wsX10_load wsX10_copyPage := goodIn_r _ [45] (by decide +kernel) (by decide +kernel)
set_option maxRecDepth 20000 in
theorem gX10_load_X10_copyPage : GoodIn wsX10_load (va_wsS RX10 54 yX10_copyPage wsX10_copyPage) := goodIn_app (goodIn_of _ (by decide +kernel)) ggX10_load_X10_copyPage
set_option maxRecDepth 20000 in
theorem ggX10_load_X10_setMany : GoodIn wsX10_load wsX10_setMany := goodIn_r _ [48, 12] (by decide +kernel) (by decide +kernel)
set_option maxRecDepth 20000 in
theorem gX10_load_X10_setMany : GoodIn wsX10_load (va_wsS RX10 127 yX10_setMany wsX10_setMany) := goodIn_app (goodIn_of _ (by decide +kernel)) ggX10_load_X10_setMany
theorem dX10_load_0 : decode cX10_load 0 = .ok (.aload_n 0, 1) := by decide +kernel
theorem dX10_load_1 : decode cX10_load 1 = .ok (.aload_n 0, 1) := by decide +kernel
theorem dX10_load_2 : decode cX10_load 2 = .ok (.invokevirtual 120, 3) := by decide +kernel
theorem dX10_load_5 : decode cX10_load 5 = .ok (.ifCond .eq 7, 3) := by decide +kernel
theorem dX10_load_8 : decode cX10_load 8 = .ok (.iconst 0, 1) := by decide +kernel
theorem dX10_load_9 : decode cX10_load 9 = .ok (.goto 4, 3) := by decide +kernel
theorem dX10_load_12 : decode cX10_load 12 = .ok (.iconst 1, 1) := by decide +kernel
theorem dX10_load_13 : decode cX10_load 13 = .ok (.invokevirtual 98, 3) := by decide +kernel
theorem dX10_load_16 : decode cX10_load 16 = .ok (.ifCond .eq 5, 3) := by decide +kernel
theorem dX10_load_19 : decode cX10_load 19 = .ok (.iconst 0, 1) := by decide +kernel
theorem dX10_load_20 : decode cX10_load 20 = .ok (.ireturn, 1) := by decide +kernel
theorem dX10_load_21 : decode cX10_load 21 = .ok (.aload_n 0, 1) := by decide +kernel
theorem dX10_load_22 : decode cX10_load 22 = .ok (.getfield 13, 3) := by decide +kernel
theorem dX10_load_25 : decode cX10_load 25 = .ok (.iconst 0, 1) := by decide +kernel
theorem dX10_load_26 : decode cX10_load 26 = .ok (.aload_n 0, 1) := by decide +kernel
theorem dX10_load_27 : decode cX10_load 27 = .ok (.getfield 16, 3) := by decide +kernel
theorem dX10_load_30 : decode cX10_load 30 = .ok (.iconst 0, 1) := by decide +kernel
theorem dX10_load_31 : decode cX10_load 31 = .ok (.invokestatic 54, 3) := by decide +kernel
theorem dX10_load_34 : decode cX10_load 34 = .ok (.aload_n 0, 1) := by decide +kernel
theorem dX10_load_35 : decode cX10_load 35 = .ok (.getfield 32, 3) := by decide +kernel
theorem dX10_load_38 : decode cX10_load 38 = .ok (.iconst 0, 1) := by decide +kernel
theorem dX10_load_39 : decode cX10_load 39 = .ok (.lconst 0, 1) := by decide +kernel
theorem dX10_load_40 : decode cX10_load 40 = .ok (.lastore, 1) := by decide +kernel
theorem dX10_load_41 : decode cX10_load 41 = .ok (.aload_n 0, 1) := by decide +kernel
theorem dX10_load_42 : decode cX10_load 42 = .ok (.getfield 32, 3) := by decide +kernel
theorem dX10_load_45 : decode cX10_load 45 = .ok (.iconst 1, 1) := by decide +kernel
theorem dX10_load_46 : decode cX10_load 46 = .ok (.lconst 0, 1) := by decide +kernel
theorem dX10_load_47 : decode cX10_load 47 = .ok (.lastore, 1) := by decide +kernel
theorem dX10_load_48 : decode cX10_load 48 = .ok (.aload_n 0, 1) := by decide +kernel
theorem dX10_load_49 : decode cX10_load 49 = .ok (.iconst 0, 1) := by decide +kernel
theorem dX10_load_50 : decode cX10_load 50 = .ok (.putfield 124, 3) := by decide +kernel
theorem dX10_load_53 : decode cX10_load 53 = .ok (.aload_n 0, 1) := by decide +kernel
theorem dX10_load_54 : decode cX10_load 54 = .ok (.getfield 28, 3) := by decide +kernel
theorem dX10_load_57 : decode cX10_load 57 = .ok (.iconst 0, 1) := by decide +kernel
theorem dX10_load_58 : decode cX10_load 58 = .ok (.iconst 0, 1) := by decide +kernel
theorem dX10_load_59 : decode cX10_load 59 = .ok (.bastore, 1) := by decide +kernel
theorem dX10_load_60 : decode cX10_load 60 = .ok (.aload_n 0, 1) := by decide +kernel
theorem dX10_load_61 : decode cX10_load 61 = .ok (.getfield 28, 3) := by decide +kernel
theorem dX10_load_64 : decode cX10_load 64 = .ok (.iconst 1, 1) := by decide +kernel
theorem dX10_load_65 : decode cX10_load 65 = .ok (.iconst 0, 1) := by decide +kernel
theorem dX10_load_66 : decode cX10_load 66 = .ok (.bastore, 1) := by decide +kernel
theorem dX10_load_67 : decode cX10_load 67 = .ok (.aload_n 0, 1) := by decide +kernel
theorem dX10_load_68 : decode cX10_load 68 = .ok (.getfield 16, 3) := by decide +kernel
theorem dX10_load_71 : decode cX10_load 71 = .ok (.invokestatic 127, 3) := by decide +kernel
theorem dX10_load_74 : decode cX10_load 74 = .ok (.ireturn, 1) := by decide +kernel
theorem dX10_waiting_0 : decode cX10_waiting 0 = .ok (.iconst 0, 1) := by decide +kernel
theorem dX10_waiting_1 : decode cX10_waiting 1 = .ok (.istore_n 1, 1) := by decide +kernel
theorem dX10_waiting_2 : decode cX10_waiting 2 = .ok (.iconst 0, 1) := by decide +kernel
theorem dX10_waiting_3 : decode cX10_waiting 3 = .ok (.istore_n 2, 1) := by decide +kernel
theorem dX10_waiting_4 : decode cX10_waiting 4 = .ok (.iload_n 2, 1) := by decide +kernel
theorem dX10_waiting_5 : decode cX10_waiting 5 = .ok (.iconst 4, 1) := by decide +kernel
theorem dX10_waiting_6 : decode cX10_waiting 6 = .ok (.if_icmp .ge 22, 3) := by decide +kernel
theorem dX10_waiting_9 : decode cX10_waiting 9 = .ok (.iload_n 1, 1) := by decide +kernel
theorem dX10_waiting_10 : decode cX10_waiting 10 = .ok (.aload_n 0, 1) := by decide +kernel
theorem dX10_waiting_11 : decode cX10_waiting 11 = .ok (.bipush 27, 2) := by decide +kernel
theorem dX10_waiting_13 : decode cX10_waiting 13 = .ok (.iconst 3, 1) := by decide +kernel
theorem dX10_waiting_14 : decode cX10_waiting 14 = .ok (.iload_n 2, 1) := by decide +kernel
theorem dX10_waiting_15 : decode cX10_waiting 15 = .ok (.imul, 1) := by decide +kernel
theorem dX10_waiting_16 : decode cX10_waiting 16 = .ok (.iadd, 1) := by decide +kernel
theorem dX10_waiting_17 : decode cX10_waiting 17 = .ok (.iconst 1, 1) := by decide +kernel
theorem dX10_waiting_18 : decode cX10_waiting 18 = .ok (.iadd, 1) := by decide +kernel
theorem dX10_waiting_19 : decode cX10_waiting 19 = .ok (.iaload, 1) := by decide +kernel
theorem dX10_waiting_20 : decode cX10_waiting 20 = .ok (.iadd, 1) := by decide +kernel
theorem dX10_waiting_21 : decode cX10_waiting 21 = .ok (.istore_n 1, 1) := by decide +kernel
theorem dX10_waiting_22 : decode cX10_waiting 22 = .ok (.iinc 2 1, 3) := by decide +kernel
theorem dX10_waiting_25 : decode cX10_waiting 25 = .ok (.goto (-21), 3) := by decide +kernel
theorem dX10_waiting_28 : decode cX10_waiting 28 = .ok (.iload_n 1, 1) := by decide +kernel
theorem dX10_waiting_29 : decode cX10_waiting 29 = .ok (.ireturn, 1) := by decide +kernel
set_option maxRecDepth 20000 in
theorem ggX10_about_X10_in : GoodIn wsX10_about wsX10_in := goodIn_r _ [6] (by decide +kernel) (by decide +kernel)
set_option maxRecDepth 20000 in
theorem gX10_about_X10_in : GoodIn wsX10_about (va_wsS RX10 91 yX10_in wsX10_in) := goodIn_app (goodIn_of _ (by decide +kernel)) ggX10_about_X10_in
set_option maxRecDepth 20000 in
theorem ggX10_about_X10_refused : GoodIn wsX10_about wsX10_refused := goodIn_r _ [10, 11, 21, 22, 23, 24, 25, 26, 27, 28, 29, 30, 31, 32, 33, 34, 35] (by decide +kernel) (by decide +kernel)
set_option maxRecDepth 20000 in
theorem gX10_about_X10_refused : GoodIn wsX10_about (wsV RX10 98 RX10 yX10_refused wsX10_refused) := goodIn_app (goodIn_of _ (by decide +kernel)) ggX10_about_X10_refused
set_option maxRecDepth 20000 in
theorem ggX10_about_X10_offsetOf : GoodIn wsX10_about wsX10_offsetOf := goodIn_r _ [14] (by decide +kernel) (by decide +kernel)
set_option maxRecDepth 20000 in
theorem gX10_about_X10_offsetOf : GoodIn wsX10_about (va_wsS RX10 132 yX10_offsetOf wsX10_offsetOf) := goodIn_app (goodIn_of _ (by decide +kernel)) ggX10_about_X10_offsetOf
set_option maxRecDepth 20000 in
theorem ggX10_about_X10_domainOf : GoodIn wsX10_about wsX10_domainOf := goodIn_r _ [17] (by decide +kernel) (by decide +kernel)
set_option maxRecDepth 20000 in
theorem gX10_about_X10_domainOf : GoodIn wsX10_about (va_wsS RX10 58 yX10_domainOf wsX10_domainOf) := goodIn_app (goodIn_of _ (by decide +kernel)) ggX10_about_X10_domainOf
set_option maxRecDepth 20000 in
theorem ggX10_about_X10_waiting : GoodIn wsX10_about wsX10_waiting := goodIn_r _ [20] (by decide +kernel) (by decide +kernel)
set_option maxRecDepth 20000 in
theorem gX10_about_X10_waiting : GoodIn wsX10_about (va_wsS RX10 135 yX10_waiting wsX10_waiting) := goodIn_app (goodIn_of _ (by decide +kernel)) ggX10_about_X10_waiting
theorem dX10_about_0 : decode cX10_about 0 = .ok (.aload_n 0, 1) := by decide +kernel
theorem dX10_about_1 : decode cX10_about 1 = .ok (.iload_n 1, 1) := by decide +kernel
theorem dX10_about_2 : decode cX10_about 2 = .ok (.i2l, 1) := by decide +kernel
theorem dX10_about_3 : decode cX10_about 3 = .ok (.lconst 0, 1) := by decide +kernel
theorem dX10_about_4 : decode cX10_about 4 = .ok (.ldc2_w 130, 3) := by decide +kernel
theorem dX10_about_7 : decode cX10_about 7 = .ok (.invokestatic 91, 3) := by decide +kernel
theorem dX10_about_10 : decode cX10_about 10 = .ok (.ifCond .eq 7, 3) := by decide +kernel
theorem dX10_about_13 : decode cX10_about 13 = .ok (.iconst 0, 1) := by decide +kernel
theorem dX10_about_14 : decode cX10_about 14 = .ok (.goto 4, 3) := by decide +kernel
theorem dX10_about_17 : decode cX10_about 17 = .ok (.iconst 1, 1) := by decide +kernel
theorem dX10_about_18 : decode cX10_about 18 = .ok (.invokevirtual 98, 3) := by decide +kernel
theorem dX10_about_21 : decode cX10_about 21 = .ok (.ifCond .eq 5, 3) := by decide +kernel
theorem dX10_about_24 : decode cX10_about 24 = .ok (.iconst 0, 1) := by decide +kernel
theorem dX10_about_25 : decode cX10_about 25 = .ok (.ireturn, 1) := by decide +kernel
theorem dX10_about_26 : decode cX10_about 26 = .ok (.iload_n 1, 1) := by decide +kernel
theorem dX10_about_27 : decode cX10_about 27 = .ok (.tableswitch 132 5 14 #[53, 61, 68, 76, 84, 92, 100, 108, 116, 124], 53) := by decide +kernel
theorem dX10_about_80 : decode cX10_about 80 = .ok (.aload_n 0, 1) := by decide +kernel
theorem dX10_about_81 : decode cX10_about 81 = .ok (.getfield 16, 3) := by decide +kernel
theorem dX10_about_84 : decode cX10_about 84 = .ok (.invokestatic 132, 3) := by decide +kernel
theorem dX10_about_87 : decode cX10_about 87 = .ok (.ireturn, 1) := by decide +kernel
theorem dX10_about_88 : decode cX10_about 88 = .ok (.aload_n 0, 1) := by decide +kernel
theorem dX10_about_89 : decode cX10_about 89 = .ok (.getfield 16, 3) := by decide +kernel
theorem dX10_about_92 : decode cX10_about 92 = .ok (.iconst 5, 1) := by decide +kernel
theorem dX10_about_93 : decode cX10_about 93 = .ok (.iaload, 1) := by decide +kernel
theorem dX10_about_94 : decode cX10_about 94 = .ok (.ireturn, 1) := by decide +kernel
theorem dX10_about_95 : decode cX10_about 95 = .ok (.aload_n 0, 1) := by decide +kernel
theorem dX10_about_96 : decode cX10_about 96 = .ok (.getfield 16, 3) := by decide +kernel
theorem dX10_about_99 : decode cX10_about 99 = .ok (.bipush 6, 2) := by decide +kernel
theorem dX10_about_101 : decode cX10_about 101 = .ok (.iaload, 1) := by decide +kernel
theorem dX10_about_102 : decode cX10_about 102 = .ok (.ireturn, 1) := by decide +kernel
theorem dX10_about_103 : decode cX10_about 103 = .ok (.aload_n 0, 1) := by decide +kernel
theorem dX10_about_104 : decode cX10_about 104 = .ok (.getfield 16, 3) := by decide +kernel
theorem dX10_about_107 : decode cX10_about 107 = .ok (.bipush 7, 2) := by decide +kernel
theorem dX10_about_109 : decode cX10_about 109 = .ok (.iaload, 1) := by decide +kernel
theorem dX10_about_110 : decode cX10_about 110 = .ok (.ireturn, 1) := by decide +kernel
theorem dX10_about_111 : decode cX10_about 111 = .ok (.aload_n 0, 1) := by decide +kernel
theorem dX10_about_112 : decode cX10_about 112 = .ok (.getfield 16, 3) := by decide +kernel
theorem dX10_about_115 : decode cX10_about 115 = .ok (.invokestatic 58, 3) := by decide +kernel
theorem dX10_about_118 : decode cX10_about 118 = .ok (.ireturn, 1) := by decide +kernel
theorem dX10_about_119 : decode cX10_about 119 = .ok (.aload_n 0, 1) := by decide +kernel
theorem dX10_about_120 : decode cX10_about 120 = .ok (.getfield 16, 3) := by decide +kernel
theorem dX10_about_123 : decode cX10_about 123 = .ok (.bipush 11, 2) := by decide +kernel
theorem dX10_about_125 : decode cX10_about 125 = .ok (.iaload, 1) := by decide +kernel
theorem dX10_about_126 : decode cX10_about 126 = .ok (.ireturn, 1) := by decide +kernel
theorem dX10_about_127 : decode cX10_about 127 = .ok (.aload_n 0, 1) := by decide +kernel
theorem dX10_about_128 : decode cX10_about 128 = .ok (.getfield 16, 3) := by decide +kernel
theorem dX10_about_131 : decode cX10_about 131 = .ok (.bipush 8, 2) := by decide +kernel
theorem dX10_about_133 : decode cX10_about 133 = .ok (.iaload, 1) := by decide +kernel
theorem dX10_about_134 : decode cX10_about 134 = .ok (.ireturn, 1) := by decide +kernel
theorem dX10_about_135 : decode cX10_about 135 = .ok (.aload_n 0, 1) := by decide +kernel
theorem dX10_about_136 : decode cX10_about 136 = .ok (.getfield 16, 3) := by decide +kernel
theorem dX10_about_139 : decode cX10_about 139 = .ok (.bipush 9, 2) := by decide +kernel
theorem dX10_about_141 : decode cX10_about 141 = .ok (.iaload, 1) := by decide +kernel
theorem dX10_about_142 : decode cX10_about 142 = .ok (.ireturn, 1) := by decide +kernel
theorem dX10_about_143 : decode cX10_about 143 = .ok (.aload_n 0, 1) := by decide +kernel
theorem dX10_about_144 : decode cX10_about 144 = .ok (.getfield 16, 3) := by decide +kernel
theorem dX10_about_147 : decode cX10_about 147 = .ok (.invokestatic 135, 3) := by decide +kernel
theorem dX10_about_150 : decode cX10_about 150 = .ok (.ireturn, 1) := by decide +kernel
theorem dX10_about_151 : decode cX10_about 151 = .ok (.aload_n 0, 1) := by decide +kernel
theorem dX10_about_152 : decode cX10_about 152 = .ok (.getfield 16, 3) := by decide +kernel
theorem dX10_about_155 : decode cX10_about 155 = .ok (.bipush 10, 2) := by decide +kernel
theorem dX10_about_157 : decode cX10_about 157 = .ok (.iaload, 1) := by decide +kernel
theorem dX10_about_158 : decode cX10_about 158 = .ok (.ireturn, 1) := by decide +kernel
theorem dX10_about_159 : decode cX10_about 159 = .ok (.aload_n 0, 1) := by decide +kernel
theorem dX10_about_160 : decode cX10_about 160 = .ok (.getfield 16, 3) := by decide +kernel
theorem dX10_about_163 : decode cX10_about 163 = .ok (.iload_n 1, 1) := by decide +kernel
theorem dX10_about_164 : decode cX10_about 164 = .ok (.iaload, 1) := by decide +kernel
theorem dX10_about_165 : decode cX10_about 165 = .ok (.ireturn, 1) := by decide +kernel
set_option maxRecDepth 20000 in
theorem ggX10_account_X10_in : GoodIn wsX10_account wsX10_in := goodIn_r _ [7] (by decide +kernel) (by decide +kernel)
set_option maxRecDepth 20000 in
theorem gX10_account_X10_in : GoodIn wsX10_account (va_wsS RX10 91 yX10_in wsX10_in) := goodIn_app (goodIn_of _ (by decide +kernel)) ggX10_account_X10_in
set_option maxRecDepth 20000 in
theorem ggX10_account_X10_refused : GoodIn wsX10_account wsX10_refused := goodIn_r _ [11, 12, 13, 14, 15, 16, 17, 18, 19, 20, 21, 22, 23, 24, 25, 26, 27] (by decide +kernel) (by decide +kernel)
set_option maxRecDepth 20000 in
theorem gX10_account_X10_refused : GoodIn wsX10_account (wsV RX10 98 RX10 yX10_refused wsX10_refused) := goodIn_app (goodIn_of _ (by decide +kernel)) ggX10_account_X10_refused
theorem dX10_account_0 : decode cX10_account 0 = .ok (.aload_n 0, 1) := by decide +kernel
theorem dX10_account_1 : decode cX10_account 1 = .ok (.iload_n 1, 1) := by decide +kernel
theorem dX10_account_2 : decode cX10_account 2 = .ok (.i2l, 1) := by decide +kernel
theorem dX10_account_3 : decode cX10_account 3 = .ok (.lconst 0, 1) := by decide +kernel
theorem dX10_account_4 : decode cX10_account 4 = .ok (.ldc2_w 138, 3) := by decide +kernel
theorem dX10_account_7 : decode cX10_account 7 = .ok (.invokestatic 91, 3) := by decide +kernel
theorem dX10_account_10 : decode cX10_account 10 = .ok (.ifCond .eq 7, 3) := by decide +kernel
theorem dX10_account_13 : decode cX10_account 13 = .ok (.iconst 0, 1) := by decide +kernel
theorem dX10_account_14 : decode cX10_account 14 = .ok (.goto 4, 3) := by decide +kernel
theorem dX10_account_17 : decode cX10_account 17 = .ok (.iconst 1, 1) := by decide +kernel
theorem dX10_account_18 : decode cX10_account 18 = .ok (.invokevirtual 98, 3) := by decide +kernel
theorem dX10_account_21 : decode cX10_account 21 = .ok (.ifCond .eq 5, 3) := by decide +kernel
theorem dX10_account_24 : decode cX10_account 24 = .ok (.lconst 0, 1) := by decide +kernel
theorem dX10_account_25 : decode cX10_account 25 = .ok (.lreturn, 1) := by decide +kernel
theorem dX10_account_26 : decode cX10_account 26 = .ok (.iload_n 1, 1) := by decide +kernel
theorem dX10_account_27 : decode cX10_account 27 = .ok (.iconst 4, 1) := by decide +kernel
theorem dX10_account_28 : decode cX10_account 28 = .ok (.if_icmp .ge 16, 3) := by decide +kernel
theorem dX10_account_31 : decode cX10_account 31 = .ok (.aload_n 0, 1) := by decide +kernel
theorem dX10_account_32 : decode cX10_account 32 = .ok (.getfield 16, 3) := by decide +kernel
theorem dX10_account_35 : decode cX10_account 35 = .ok (.bipush 12, 2) := by decide +kernel
theorem dX10_account_37 : decode cX10_account 37 = .ok (.iload_n 1, 1) := by decide +kernel
theorem dX10_account_38 : decode cX10_account 38 = .ok (.iadd, 1) := by decide +kernel
theorem dX10_account_39 : decode cX10_account 39 = .ok (.iaload, 1) := by decide +kernel
theorem dX10_account_40 : decode cX10_account 40 = .ok (.i2l, 1) := by decide +kernel
theorem dX10_account_41 : decode cX10_account 41 = .ok (.goto 11, 3) := by decide +kernel
theorem dX10_account_44 : decode cX10_account 44 = .ok (.aload_n 0, 1) := by decide +kernel
theorem dX10_account_45 : decode cX10_account 45 = .ok (.getfield 32, 3) := by decide +kernel
theorem dX10_account_48 : decode cX10_account 48 = .ok (.iload_n 1, 1) := by decide +kernel
theorem dX10_account_49 : decode cX10_account 49 = .ok (.iconst 4, 1) := by decide +kernel
theorem dX10_account_50 : decode cX10_account 50 = .ok (.isub, 1) := by decide +kernel
theorem dX10_account_51 : decode cX10_account 51 = .ok (.laload, 1) := by decide +kernel
theorem dX10_account_52 : decode cX10_account 52 = .ok (.lreturn, 1) := by decide +kernel
set_option maxRecDepth 20000 in
theorem ggX10_isRegister_X10_in : GoodIn wsX10_isRegister wsX10_in := goodIn_r _ [5] (by decide +kernel) (by decide +kernel)
set_option maxRecDepth 20000 in
theorem gX10_isRegister_X10_in : GoodIn wsX10_isRegister (va_wsS RX10 91 yX10_in wsX10_in) := goodIn_app (goodIn_of _ (by decide +kernel)) ggX10_isRegister_X10_in
theorem dX10_isRegister_0 : decode cX10_isRegister 0 = .ok (.iload_n 0, 1) := by decide +kernel
theorem dX10_isRegister_1 : decode cX10_isRegister 1 = .ok (.i2l, 1) := by decide +kernel
theorem dX10_isRegister_2 : decode cX10_isRegister 2 = .ok (.lconst 0, 1) := by decide +kernel
theorem dX10_isRegister_3 : decode cX10_isRegister 3 = .ok (.ldc2_w 140, 3) := by decide +kernel
theorem dX10_isRegister_6 : decode cX10_isRegister 6 = .ok (.invokestatic 91, 3) := by decide +kernel
theorem dX10_isRegister_9 : decode cX10_isRegister 9 = .ok (.ireturn, 1) := by decide +kernel
set_option maxRecDepth 20000 in
theorem ggX10_isPin_X10_in : GoodIn wsX10_isPin wsX10_in := goodIn_r _ [5] (by decide +kernel) (by decide +kernel)
set_option maxRecDepth 20000 in
theorem gX10_isPin_X10_in : GoodIn wsX10_isPin (va_wsS RX10 91 yX10_in wsX10_in) := goodIn_app (goodIn_of _ (by decide +kernel)) ggX10_isPin_X10_in
theorem dX10_isPin_0 : decode cX10_isPin 0 = .ok (.iload_n 0, 1) := by decide +kernel
theorem dX10_isPin_1 : decode cX10_isPin 1 = .ok (.i2l, 1) := by decide +kernel
theorem dX10_isPin_2 : decode cX10_isPin 2 = .ok (.lconst 0, 1) := by decide +kernel
theorem dX10_isPin_3 : decode cX10_isPin 3 = .ok (.ldc2_w 142, 3) := by decide +kernel
theorem dX10_isPin_6 : decode cX10_isPin 6 = .ok (.invokestatic 91, 3) := by decide +kernel
theorem dX10_isPin_9 : decode cX10_isPin 9 = .ok (.ireturn, 1) := by decide +kernel
set_option maxRecDepth 20000 in
theorem ggX10_isAlarm_X10_in : GoodIn wsX10_isAlarm wsX10_in := goodIn_r _ [5] (by decide +kernel) (by decide +kernel)
set_option maxRecDepth 20000 in
theorem gX10_isAlarm_X10_in : GoodIn wsX10_isAlarm (va_wsS RX10 91 yX10_in wsX10_in) := goodIn_app (goodIn_of _ (by decide +kernel)) ggX10_isAlarm_X10_in
theorem dX10_isAlarm_0 : decode cX10_isAlarm 0 = .ok (.iload_n 0, 1) := by decide +kernel
theorem dX10_isAlarm_1 : decode cX10_isAlarm 1 = .ok (.i2l, 1) := by decide +kernel
theorem dX10_isAlarm_2 : decode cX10_isAlarm 2 = .ok (.lconst 0, 1) := by decide +kernel
theorem dX10_isAlarm_3 : decode cX10_isAlarm 3 = .ok (.ldc2_w 144, 3) := by decide +kernel
theorem dX10_isAlarm_6 : decode cX10_isAlarm 6 = .ok (.invokestatic 91, 3) := by decide +kernel
theorem dX10_isAlarm_9 : decode cX10_isAlarm 9 = .ok (.ireturn, 1) := by decide +kernel
set_option maxRecDepth 20000 in
theorem ggX10_register_X10_isRegister : GoodIn wsX10_register wsX10_isRegister := goodIn_r _ [5, 6, 7, 8, 4, 9] (by decide +kernel) (by decide +kernel)
set_option maxRecDepth 20000 in
theorem gX10_register_X10_isRegister : GoodIn wsX10_register (va_wsS RX10 146 yX10_isRegister wsX10_isRegister) := goodIn_app (goodIn_of _ (by decide +kernel)) ggX10_register_X10_isRegister
set_option maxRecDepth 20000 in
theorem ggX10_register_X10_refused : GoodIn wsX10_register wsX10_refused := goodIn_r _ [13, 14, 15, 16, 17, 18, 19, 20, 21, 22, 23, 24, 25, 26, 27, 28, 29] (by decide +kernel) (by decide +kernel)
set_option maxRecDepth 20000 in
theorem gX10_register_X10_refused : GoodIn wsX10_register (wsV RX10 98 RX10 yX10_refused wsX10_refused) := goodIn_app (goodIn_of _ (by decide +kernel)) ggX10_register_X10_refused
theorem dX10_register_0 : decode cX10_register 0 = .ok (.aload_n 0, 1) := by decide +kernel
theorem dX10_register_1 : decode cX10_register 1 = .ok (.iload_n 1, 1) := by decide +kernel
theorem dX10_register_2 : decode cX10_register 2 = .ok (.invokestatic 146, 3) := by decide +kernel
theorem dX10_register_5 : decode cX10_register 5 = .ok (.ifCond .eq 7, 3) := by decide +kernel
theorem dX10_register_8 : decode cX10_register 8 = .ok (.iconst 0, 1) := by decide +kernel
theorem dX10_register_9 : decode cX10_register 9 = .ok (.goto 4, 3) := by decide +kernel
theorem dX10_register_12 : decode cX10_register 12 = .ok (.iconst 1, 1) := by decide +kernel
theorem dX10_register_13 : decode cX10_register 13 = .ok (.invokevirtual 98, 3) := by decide +kernel
theorem dX10_register_16 : decode cX10_register 16 = .ok (.ifCond .eq 7, 3) := by decide +kernel
theorem dX10_register_19 : decode cX10_register 19 = .ok (.iconst 0, 1) := by decide +kernel
theorem dX10_register_20 : decode cX10_register 20 = .ok (.goto 12, 3) := by decide +kernel
theorem dX10_register_23 : decode cX10_register 23 = .ok (.aload_n 0, 1) := by decide +kernel
theorem dX10_register_24 : decode cX10_register 24 = .ok (.getfield 16, 3) := by decide +kernel
theorem dX10_register_27 : decode cX10_register 27 = .ok (.bipush 16, 2) := by decide +kernel
theorem dX10_register_29 : decode cX10_register 29 = .ok (.iload_n 1, 1) := by decide +kernel
theorem dX10_register_30 : decode cX10_register 30 = .ok (.iadd, 1) := by decide +kernel
theorem dX10_register_31 : decode cX10_register 31 = .ok (.iaload, 1) := by decide +kernel
theorem dX10_register_32 : decode cX10_register 32 = .ok (.ireturn, 1) := by decide +kernel
set_option maxRecDepth 20000 in
theorem ggX10_isGuarded_X10_isPin : GoodIn wsX10_isGuarded wsX10_isPin := goodIn_r _ [5, 6, 7, 8, 4, 9] (by decide +kernel) (by decide +kernel)
set_option maxRecDepth 20000 in
theorem gX10_isGuarded_X10_isPin : GoodIn wsX10_isGuarded (va_wsS RX10 149 yX10_isPin wsX10_isPin) := goodIn_app (goodIn_of _ (by decide +kernel)) ggX10_isGuarded_X10_isPin
set_option maxRecDepth 20000 in
theorem ggX10_isGuarded_X10_refused : GoodIn wsX10_isGuarded wsX10_refused := goodIn_r _ [13, 14, 15, 16, 17, 18, 19, 20, 21, 22, 23, 24, 25, 26, 27, 28, 29] (by decide +kernel) (by decide +kernel)
set_option maxRecDepth 20000 in
theorem gX10_isGuarded_X10_refused : GoodIn wsX10_isGuarded (wsV RX10 98 RX10 yX10_refused wsX10_refused) := goodIn_app (goodIn_of _ (by decide +kernel)) ggX10_isGuarded_X10_refused
theorem dX10_isGuarded_0 : decode cX10_isGuarded 0 = .ok (.aload_n 0, 1) := by decide +kernel
theorem dX10_isGuarded_1 : decode cX10_isGuarded 1 = .ok (.iload_n 1, 1) := by decide +kernel
theorem dX10_isGuarded_2 : decode cX10_isGuarded 2 = .ok (.invokestatic 149, 3) := by decide +kernel
theorem dX10_isGuarded_5 : decode cX10_isGuarded 5 = .ok (.ifCond .eq 7, 3) := by decide +kernel
theorem dX10_isGuarded_8 : decode cX10_isGuarded 8 = .ok (.iconst 0, 1) := by decide +kernel
theorem dX10_isGuarded_9 : decode cX10_isGuarded 9 = .ok (.goto 4, 3) := by decide +kernel
theorem dX10_isGuarded_12 : decode cX10_isGuarded 12 = .ok (.iconst 1, 1) := by decide +kernel
theorem dX10_isGuarded_13 : decode cX10_isGuarded 13 = .ok (.invokevirtual 98, 3) := by decide +kernel
theorem dX10_isGuarded_16 : decode cX10_isGuarded 16 = .ok (.ifCond .ne 20, 3) := by decide +kernel
theorem dX10_isGuarded_19 : decode cX10_isGuarded 19 = .ok (.aload_n 0, 1) := by decide +kernel
theorem dX10_isGuarded_20 : decode cX10_isGuarded 20 = .ok (.getfield 16, 3) := by decide +kernel
theorem dX10_isGuarded_23 : decode cX10_isGuarded 23 = .ok (.bipush 24, 2) := by decide +kernel
theorem dX10_isGuarded_25 : decode cX10_isGuarded 25 = .ok (.iload_n 1, 1) := by decide +kernel
theorem dX10_isGuarded_26 : decode cX10_isGuarded 26 = .ok (.iadd, 1) := by decide +kernel
theorem dX10_isGuarded_27 : decode cX10_isGuarded 27 = .ok (.iaload, 1) := by decide +kernel
theorem dX10_isGuarded_28 : decode cX10_isGuarded 28 = .ok (.iconst 1, 1) := by decide +kernel
theorem dX10_isGuarded_29 : decode cX10_isGuarded 29 = .ok (.if_icmp .ne 7, 3) := by decide +kernel
theorem dX10_isGuarded_32 : decode cX10_isGuarded 32 = .ok (.iconst 1, 1) := by decide +kernel
theorem dX10_isGuarded_33 : decode cX10_isGuarded 33 = .ok (.goto 4, 3) := by decide +kernel
theorem dX10_isGuarded_36 : decode cX10_isGuarded 36 = .ok (.iconst 0, 1) := by decide +kernel
theorem dX10_isGuarded_37 : decode cX10_isGuarded 37 = .ok (.ireturn, 1) := by decide +kernel
set_option maxRecDepth 20000 in
theorem ggX10_row_X10_in : GoodIn wsX10_row wsX10_in := goodIn_r _ [6] (by decide +kernel) (by decide +kernel)
set_option maxRecDepth 20000 in
theorem gX10_row_X10_in : GoodIn wsX10_row (va_wsS RX10 91 yX10_in wsX10_in) := goodIn_app (goodIn_of _ (by decide +kernel)) ggX10_row_X10_in
set_option maxRecDepth 20000 in
theorem ggX10_row_X10_refused : GoodIn wsX10_row wsX10_refused := goodIn_r _ [10, 11, 12, 13, 14, 15, 16, 17, 18, 19, 20, 21, 22, 23, 24, 25, 26] (by decide +kernel) (by decide +kernel)
set_option maxRecDepth 20000 in
theorem gX10_row_X10_refused : GoodIn wsX10_row (wsV RX10 98 RX10 yX10_refused wsX10_refused) := goodIn_app (goodIn_of _ (by decide +kernel)) ggX10_row_X10_refused
theorem dX10_row_0 : decode cX10_row 0 = .ok (.aload_n 0, 1) := by decide +kernel
theorem dX10_row_1 : decode cX10_row 1 = .ok (.iload_n 1, 1) := by decide +kernel
theorem dX10_row_2 : decode cX10_row 2 = .ok (.i2l, 1) := by decide +kernel
theorem dX10_row_3 : decode cX10_row 3 = .ok (.lconst 0, 1) := by decide +kernel
theorem dX10_row_4 : decode cX10_row 4 = .ok (.aload_n 0, 1) := by decide +kernel
theorem dX10_row_5 : decode cX10_row 5 = .ok (.getfield 16, 3) := by decide +kernel
theorem dX10_row_8 : decode cX10_row 8 = .ok (.bipush 11, 2) := by decide +kernel
theorem dX10_row_10 : decode cX10_row 10 = .ok (.iaload, 1) := by decide +kernel
theorem dX10_row_11 : decode cX10_row 11 = .ok (.iconst 1, 1) := by decide +kernel
theorem dX10_row_12 : decode cX10_row 12 = .ok (.isub, 1) := by decide +kernel
theorem dX10_row_13 : decode cX10_row 13 = .ok (.i2l, 1) := by decide +kernel
theorem dX10_row_14 : decode cX10_row 14 = .ok (.invokestatic 91, 3) := by decide +kernel
theorem dX10_row_17 : decode cX10_row 17 = .ok (.ifCond .ne 7, 3) := by decide +kernel
theorem dX10_row_20 : decode cX10_row 20 = .ok (.iconst 1, 1) := by decide +kernel
theorem dX10_row_21 : decode cX10_row 21 = .ok (.goto 20, 3) := by decide +kernel
theorem dX10_row_24 : decode cX10_row 24 = .ok (.iload_n 2, 1) := by decide +kernel
theorem dX10_row_25 : decode cX10_row 25 = .ok (.i2l, 1) := by decide +kernel
theorem dX10_row_26 : decode cX10_row 26 = .ok (.lconst 0, 1) := by decide +kernel
theorem dX10_row_27 : decode cX10_row 27 = .ok (.ldc2_w 142, 3) := by decide +kernel
theorem dX10_row_30 : decode cX10_row 30 = .ok (.invokestatic 91, 3) := by decide +kernel
theorem dX10_row_33 : decode cX10_row 33 = .ok (.ifCond .ne 7, 3) := by decide +kernel
theorem dX10_row_36 : decode cX10_row 36 = .ok (.iconst 2, 1) := by decide +kernel
theorem dX10_row_37 : decode cX10_row 37 = .ok (.goto 4, 3) := by decide +kernel
theorem dX10_row_40 : decode cX10_row 40 = .ok (.iconst 0, 1) := by decide +kernel
theorem dX10_row_41 : decode cX10_row 41 = .ok (.invokevirtual 98, 3) := by decide +kernel
theorem dX10_row_44 : decode cX10_row 44 = .ok (.ifCond .eq 7, 3) := by decide +kernel
theorem dX10_row_47 : decode cX10_row 47 = .ok (.iconst 0, 1) := by decide +kernel
theorem dX10_row_48 : decode cX10_row 48 = .ok (.goto 16, 3) := by decide +kernel
theorem dX10_row_51 : decode cX10_row 51 = .ok (.aload_n 0, 1) := by decide +kernel
theorem dX10_row_52 : decode cX10_row 52 = .ok (.getfield 16, 3) := by decide +kernel
theorem dX10_row_55 : decode cX10_row 55 = .ok (.bipush 39, 2) := by decide +kernel
theorem dX10_row_57 : decode cX10_row 57 = .ok (.iconst 3, 1) := by decide +kernel
theorem dX10_row_58 : decode cX10_row 58 = .ok (.iload_n 1, 1) := by decide +kernel
theorem dX10_row_59 : decode cX10_row 59 = .ok (.imul, 1) := by decide +kernel
theorem dX10_row_60 : decode cX10_row 60 = .ok (.iadd, 1) := by decide +kernel
theorem dX10_row_61 : decode cX10_row 61 = .ok (.iload_n 2, 1) := by decide +kernel
theorem dX10_row_62 : decode cX10_row 62 = .ok (.iadd, 1) := by decide +kernel
theorem dX10_row_63 : decode cX10_row 63 = .ok (.iaload, 1) := by decide +kernel
theorem dX10_row_64 : decode cX10_row 64 = .ok (.ireturn, 1) := by decide +kernel
set_option maxRecDepth 20000 in
theorem ggX10_alarm_X10_isAlarm : GoodIn wsX10_alarm wsX10_isAlarm := goodIn_r _ [6, 7, 8, 9, 5, 10] (by decide +kernel) (by decide +kernel)
set_option maxRecDepth 20000 in
theorem gX10_alarm_X10_isAlarm : GoodIn wsX10_alarm (va_wsS RX10 152 yX10_isAlarm wsX10_isAlarm) := goodIn_app (goodIn_of _ (by decide +kernel)) ggX10_alarm_X10_isAlarm
set_option maxRecDepth 20000 in
theorem ggX10_alarm_X10_in : GoodIn wsX10_alarm wsX10_in := goodIn_r _ [10] (by decide +kernel) (by decide +kernel)
set_option maxRecDepth 20000 in
theorem gX10_alarm_X10_in : GoodIn wsX10_alarm (va_wsS RX10 91 yX10_in wsX10_in) := goodIn_app (goodIn_of _ (by decide +kernel)) ggX10_alarm_X10_in
set_option maxRecDepth 20000 in
theorem ggX10_alarm_X10_refused : GoodIn wsX10_alarm wsX10_refused := goodIn_r _ [14, 15, 16, 17, 18, 19, 20, 21, 22, 23, 24, 25, 26, 27, 28, 29, 30] (by decide +kernel) (by decide +kernel)
set_option maxRecDepth 20000 in
theorem gX10_alarm_X10_refused : GoodIn wsX10_alarm (wsV RX10 98 RX10 yX10_refused wsX10_refused) := goodIn_app (goodIn_of _ (by decide +kernel)) ggX10_alarm_X10_refused
theorem dX10_alarm_0 : decode cX10_alarm 0 = .ok (.aload_n 0, 1) := by decide +kernel
theorem dX10_alarm_1 : decode cX10_alarm 1 = .ok (.iload_n 1, 1) := by decide +kernel
theorem dX10_alarm_2 : decode cX10_alarm 2 = .ok (.invokestatic 152, 3) := by decide +kernel
theorem dX10_alarm_5 : decode cX10_alarm 5 = .ok (.ifCond .ne 7, 3) := by decide +kernel
theorem dX10_alarm_8 : decode cX10_alarm 8 = .ok (.iconst 1, 1) := by decide +kernel
theorem dX10_alarm_9 : decode cX10_alarm 9 = .ok (.goto 20, 3) := by decide +kernel
theorem dX10_alarm_12 : decode cX10_alarm 12 = .ok (.iload_n 2, 1) := by decide +kernel
theorem dX10_alarm_13 : decode cX10_alarm 13 = .ok (.i2l, 1) := by decide +kernel
theorem dX10_alarm_14 : decode cX10_alarm 14 = .ok (.lconst 0, 1) := by decide +kernel
theorem dX10_alarm_15 : decode cX10_alarm 15 = .ok (.ldc2_w 142, 3) := by decide +kernel
theorem dX10_alarm_18 : decode cX10_alarm 18 = .ok (.invokestatic 91, 3) := by decide +kernel
theorem dX10_alarm_21 : decode cX10_alarm 21 = .ok (.ifCond .ne 7, 3) := by decide +kernel
theorem dX10_alarm_24 : decode cX10_alarm 24 = .ok (.iconst 2, 1) := by decide +kernel
theorem dX10_alarm_25 : decode cX10_alarm 25 = .ok (.goto 4, 3) := by decide +kernel
theorem dX10_alarm_28 : decode cX10_alarm 28 = .ok (.iconst 0, 1) := by decide +kernel
theorem dX10_alarm_29 : decode cX10_alarm 29 = .ok (.invokevirtual 98, 3) := by decide +kernel
theorem dX10_alarm_32 : decode cX10_alarm 32 = .ok (.ifCond .eq 7, 3) := by decide +kernel
theorem dX10_alarm_35 : decode cX10_alarm 35 = .ok (.iconst 0, 1) := by decide +kernel
theorem dX10_alarm_36 : decode cX10_alarm 36 = .ok (.goto 16, 3) := by decide +kernel
theorem dX10_alarm_39 : decode cX10_alarm 39 = .ok (.aload_n 0, 1) := by decide +kernel
theorem dX10_alarm_40 : decode cX10_alarm 40 = .ok (.getfield 16, 3) := by decide +kernel
theorem dX10_alarm_43 : decode cX10_alarm 43 = .ok (.bipush 27, 2) := by decide +kernel
theorem dX10_alarm_45 : decode cX10_alarm 45 = .ok (.iconst 3, 1) := by decide +kernel
theorem dX10_alarm_46 : decode cX10_alarm 46 = .ok (.iload_n 1, 1) := by decide +kernel
theorem dX10_alarm_47 : decode cX10_alarm 47 = .ok (.imul, 1) := by decide +kernel
theorem dX10_alarm_48 : decode cX10_alarm 48 = .ok (.iadd, 1) := by decide +kernel
theorem dX10_alarm_49 : decode cX10_alarm 49 = .ok (.iload_n 2, 1) := by decide +kernel
theorem dX10_alarm_50 : decode cX10_alarm 50 = .ok (.iadd, 1) := by decide +kernel
theorem dX10_alarm_51 : decode cX10_alarm 51 = .ok (.iaload, 1) := by decide +kernel
theorem dX10_alarm_52 : decode cX10_alarm 52 = .ok (.ireturn, 1) := by decide +kernel
set_option maxRecDepth 20000 in
theorem ggX10_note_X10_copyPage : GoodIn wsX10_note wsX10_copyPage := goodIn_r _ [9] (by decide +kernel) (by decide +kernel)
set_option maxRecDepth 20000 in
theorem gX10_note_X10_copyPage : GoodIn wsX10_note (va_wsS RX10 54 yX10_copyPage wsX10_copyPage) := goodIn_app (goodIn_of _ (by decide +kernel)) ggX10_note_X10_copyPage
theorem dX10_note_0 : decode cX10_note 0 = .ok (.aload_n 0, 1) := by decide +kernel

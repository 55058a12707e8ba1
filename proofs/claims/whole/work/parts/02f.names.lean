theorem dX10_note_1 : decode cX10_note 1 = .ok (.getfield 124, 3) := by decide +kernel
theorem dX10_note_4 : decode cX10_note 4 = .ok (.bipush 14, 2) := by decide +kernel
theorem dX10_note_6 : decode cX10_note 6 = .ok (.if_icmp .ne 71, 3) := by decide +kernel
theorem dX10_note_9 : decode cX10_note 9 = .ok (.iconst 0, 1) := by decide +kernel
theorem dX10_note_10 : decode cX10_note 10 = .ok (.istore_n 1, 1) := by decide +kernel
theorem dX10_note_11 : decode cX10_note 11 = .ok (.iload_n 1, 1) := by decide +kernel
theorem dX10_note_12 : decode cX10_note 12 = .ok (.sipush 741, 3) := by decide +kernel
theorem dX10_note_15 : decode cX10_note 15 = .ok (.if_icmp .ge 24, 3) := by decide +kernel
theorem dX10_note_18 : decode cX10_note 18 = .ok (.aload_n 0, 1) := by decide +kernel
theorem dX10_note_19 : decode cX10_note 19 = .ok (.getfield 22, 3) := by decide +kernel
theorem dX10_note_22 : decode cX10_note 22 = .ok (.iload_n 1, 1) := by decide +kernel
theorem dX10_note_23 : decode cX10_note 23 = .ok (.aload_n 0, 1) := by decide +kernel
theorem dX10_note_24 : decode cX10_note 24 = .ok (.getfield 22, 3) := by decide +kernel
theorem dX10_note_27 : decode cX10_note 27 = .ok (.iload_n 1, 1) := by decide +kernel
theorem dX10_note_28 : decode cX10_note 28 = .ok (.bipush 57, 2) := by decide +kernel
theorem dX10_note_30 : decode cX10_note 30 = .ok (.iadd, 1) := by decide +kernel
theorem dX10_note_31 : decode cX10_note 31 = .ok (.iaload, 1) := by decide +kernel
theorem dX10_note_32 : decode cX10_note 32 = .ok (.iastore, 1) := by decide +kernel
theorem dX10_note_33 : decode cX10_note 33 = .ok (.iinc 1 1, 3) := by decide +kernel
theorem dX10_note_36 : decode cX10_note 36 = .ok (.goto (-25), 3) := by decide +kernel
theorem dX10_note_39 : decode cX10_note 39 = .ok (.iconst 0, 1) := by decide +kernel
theorem dX10_note_40 : decode cX10_note 40 = .ok (.istore_n 1, 1) := by decide +kernel
theorem dX10_note_41 : decode cX10_note 41 = .ok (.iload_n 1, 1) := by decide +kernel
theorem dX10_note_42 : decode cX10_note 42 = .ok (.bipush 26, 2) := by decide +kernel
theorem dX10_note_44 : decode cX10_note 44 = .ok (.if_icmp .ge 23, 3) := by decide +kernel
theorem dX10_note_47 : decode cX10_note 47 = .ok (.aload_n 0, 1) := by decide +kernel
theorem dX10_note_48 : decode cX10_note 48 = .ok (.getfield 39, 3) := by decide +kernel
theorem dX10_note_51 : decode cX10_note 51 = .ok (.iload_n 1, 1) := by decide +kernel
theorem dX10_note_52 : decode cX10_note 52 = .ok (.aload_n 0, 1) := by decide +kernel
theorem dX10_note_53 : decode cX10_note 53 = .ok (.getfield 39, 3) := by decide +kernel
theorem dX10_note_56 : decode cX10_note 56 = .ok (.iload_n 1, 1) := by decide +kernel
theorem dX10_note_57 : decode cX10_note 57 = .ok (.iconst 2, 1) := by decide +kernel
theorem dX10_note_58 : decode cX10_note 58 = .ok (.iadd, 1) := by decide +kernel
theorem dX10_note_59 : decode cX10_note 59 = .ok (.laload, 1) := by decide +kernel
theorem dX10_note_60 : decode cX10_note 60 = .ok (.lastore, 1) := by decide +kernel
theorem dX10_note_61 : decode cX10_note 61 = .ok (.iinc 1 1, 3) := by decide +kernel
theorem dX10_note_64 : decode cX10_note 64 = .ok (.goto (-23), 3) := by decide +kernel
theorem dX10_note_67 : decode cX10_note 67 = .ok (.aload_n 0, 1) := by decide +kernel
theorem dX10_note_68 : decode cX10_note 68 = .ok (.dup, 1) := by decide +kernel
theorem dX10_note_69 : decode cX10_note 69 = .ok (.getfield 124, 3) := by decide +kernel
theorem dX10_note_72 : decode cX10_note 72 = .ok (.iconst 1, 1) := by decide +kernel
theorem dX10_note_73 : decode cX10_note 73 = .ok (.isub, 1) := by decide +kernel
theorem dX10_note_74 : decode cX10_note 74 = .ok (.putfield 124, 3) := by decide +kernel
theorem dX10_note_77 : decode cX10_note 77 = .ok (.aload_n 0, 1) := by decide +kernel
theorem dX10_note_78 : decode cX10_note 78 = .ok (.getfield 16, 3) := by decide +kernel
theorem dX10_note_81 : decode cX10_note 81 = .ok (.iconst 0, 1) := by decide +kernel
theorem dX10_note_82 : decode cX10_note 82 = .ok (.aload_n 0, 1) := by decide +kernel
theorem dX10_note_83 : decode cX10_note 83 = .ok (.getfield 22, 3) := by decide +kernel
theorem dX10_note_86 : decode cX10_note 86 = .ok (.bipush 57, 2) := by decide +kernel
theorem dX10_note_88 : decode cX10_note 88 = .ok (.aload_n 0, 1) := by decide +kernel
theorem dX10_note_89 : decode cX10_note 89 = .ok (.getfield 124, 3) := by decide +kernel
theorem dX10_note_92 : decode cX10_note 92 = .ok (.imul, 1) := by decide +kernel
theorem dX10_note_93 : decode cX10_note 93 = .ok (.invokestatic 54, 3) := by decide +kernel
theorem dX10_note_96 : decode cX10_note 96 = .ok (.aload_n 0, 1) := by decide +kernel
theorem dX10_note_97 : decode cX10_note 97 = .ok (.getfield 39, 3) := by decide +kernel
theorem dX10_note_100 : decode cX10_note 100 = .ok (.iconst 2, 1) := by decide +kernel
theorem dX10_note_101 : decode cX10_note 101 = .ok (.aload_n 0, 1) := by decide +kernel
theorem dX10_note_102 : decode cX10_note 102 = .ok (.getfield 124, 3) := by decide +kernel
theorem dX10_note_105 : decode cX10_note 105 = .ok (.imul, 1) := by decide +kernel
theorem dX10_note_106 : decode cX10_note 106 = .ok (.aload_n 0, 1) := by decide +kernel
theorem dX10_note_107 : decode cX10_note 107 = .ok (.getfield 32, 3) := by decide +kernel
theorem dX10_note_110 : decode cX10_note 110 = .ok (.iconst 0, 1) := by decide +kernel
theorem dX10_note_111 : decode cX10_note 111 = .ok (.laload, 1) := by decide +kernel
theorem dX10_note_112 : decode cX10_note 112 = .ok (.lastore, 1) := by decide +kernel
theorem dX10_note_113 : decode cX10_note 113 = .ok (.aload_n 0, 1) := by decide +kernel
theorem dX10_note_114 : decode cX10_note 114 = .ok (.getfield 39, 3) := by decide +kernel
theorem dX10_note_117 : decode cX10_note 117 = .ok (.iconst 2, 1) := by decide +kernel
theorem dX10_note_118 : decode cX10_note 118 = .ok (.aload_n 0, 1) := by decide +kernel
theorem dX10_note_119 : decode cX10_note 119 = .ok (.getfield 124, 3) := by decide +kernel
theorem dX10_note_122 : decode cX10_note 122 = .ok (.imul, 1) := by decide +kernel
theorem dX10_note_123 : decode cX10_note 123 = .ok (.iconst 1, 1) := by decide +kernel
theorem dX10_note_124 : decode cX10_note 124 = .ok (.iadd, 1) := by decide +kernel
theorem dX10_note_125 : decode cX10_note 125 = .ok (.aload_n 0, 1) := by decide +kernel
theorem dX10_note_126 : decode cX10_note 126 = .ok (.getfield 32, 3) := by decide +kernel
theorem dX10_note_129 : decode cX10_note 129 = .ok (.iconst 1, 1) := by decide +kernel
theorem dX10_note_130 : decode cX10_note 130 = .ok (.laload, 1) := by decide +kernel
theorem dX10_note_131 : decode cX10_note 131 = .ok (.lastore, 1) := by decide +kernel
theorem dX10_note_132 : decode cX10_note 132 = .ok (.aload_n 0, 1) := by decide +kernel
theorem dX10_note_133 : decode cX10_note 133 = .ok (.dup, 1) := by decide +kernel
theorem dX10_note_134 : decode cX10_note 134 = .ok (.getfield 124, 3) := by decide +kernel
theorem dX10_note_137 : decode cX10_note 137 = .ok (.iconst 1, 1) := by decide +kernel
theorem dX10_note_138 : decode cX10_note 138 = .ok (.iadd, 1) := by decide +kernel
theorem dX10_note_139 : decode cX10_note 139 = .ok (.putfield 124, 3) := by decide +kernel
theorem dX10_note_142 : decode cX10_note 142 = .ok (.return_, 1) := by decide +kernel
set_option maxRecDepth 20000 in
theorem ggX10_pass_X10_in : GoodIn wsX10_pass wsX10_in := goodIn_r _ [7] (by decide +kernel) (by decide +kernel)
set_option maxRecDepth 20000 in
theorem gX10_pass_X10_in : GoodIn wsX10_pass (va_wsS RX10 91 yX10_in wsX10_in) := goodIn_app (goodIn_of _ (by decide +kernel)) ggX10_pass_X10_in
set_option maxRecDepth 20000 in
theorem ggX10_pass_X10_refused : GoodIn wsX10_pass wsX10_refused := goodIn_r _ [11, 12, 52, 53, 54, 55, 56, 57, 58, 59, 60, 61, 62, 63, 64, 65, 66] (by decide +kernel) (by decide +kernel)
set_option maxRecDepth 20000 in
theorem gX10_pass_X10_refused : GoodIn wsX10_pass (wsV RX10 98 RX10 yX10_refused wsX10_refused) := goodIn_app (goodIn_of _ (by decide +kernel)) ggX10_pass_X10_refused
set_option maxRecDepth 20000 in
theorem ggX10_pass_X10_note : GoodIn wsX10_pass wsX10_note := goodIn_r _ [16, 17, 18, 19, 2, 3, 20, 21, 6, 22, 52, 53, 54, 55, 56, 57, 58, 59, 60, 61, 62, 63, 64, 65, 66] (by decide +kernel) (by decide +kernel)
set_option maxRecDepth 20000 in
theorem gX10_pass_X10_note : GoodIn wsX10_pass (wsV RX10 157 RX10 yX10_note wsX10_note) := goodIn_app (goodIn_of _ (by decide +kernel)) ggX10_pass_X10_note
set_option maxRecDepth 20000 in
theorem ggX10_pass_X10_minutesOn : GoodIn wsX10_pass wsX10_minutesOn := goodIn_r _ [25, 26, 27, 6, 28, 29, 30, 31, 32, 33, 34, 35, 36, 37, 38, 39, 40, 41, 42, 43, 44, 45, 46, 47, 48, 49, 50, 51] (by decide +kernel) (by decide +kernel)
set_option maxRecDepth 20000 in
theorem gX10_pass_X10_minutesOn : GoodIn wsX10_pass (va_wsS RX10 160 yX10_minutesOn wsX10_minutesOn) := goodIn_app (goodIn_of _ (by decide +kernel)) ggX10_pass_X10_minutesOn
theorem dX10_pass_0 : decode cX10_pass 0 = .ok (.aload_n 0, 1) := by decide +kernel
theorem dX10_pass_1 : decode cX10_pass 1 = .ok (.iload_n 1, 1) := by decide +kernel
theorem dX10_pass_2 : decode cX10_pass 2 = .ok (.i2l, 1) := by decide +kernel
theorem dX10_pass_3 : decode cX10_pass 3 = .ok (.lconst 1, 1) := by decide +kernel
theorem dX10_pass_4 : decode cX10_pass 4 = .ok (.ldc2_w 155, 3) := by decide +kernel
theorem dX10_pass_7 : decode cX10_pass 7 = .ok (.invokestatic 91, 3) := by decide +kernel
theorem dX10_pass_10 : decode cX10_pass 10 = .ok (.ifCond .eq 7, 3) := by decide +kernel
theorem dX10_pass_13 : decode cX10_pass 13 = .ok (.iconst 0, 1) := by decide +kernel
theorem dX10_pass_14 : decode cX10_pass 14 = .ok (.goto 4, 3) := by decide +kernel
theorem dX10_pass_17 : decode cX10_pass 17 = .ok (.iconst 1, 1) := by decide +kernel
theorem dX10_pass_18 : decode cX10_pass 18 = .ok (.invokevirtual 98, 3) := by decide +kernel
theorem dX10_pass_21 : decode cX10_pass 21 = .ok (.ifCond .eq 5, 3) := by decide +kernel
theorem dX10_pass_24 : decode cX10_pass 24 = .ok (.iconst 0, 1) := by decide +kernel
theorem dX10_pass_25 : decode cX10_pass 25 = .ok (.ireturn, 1) := by decide +kernel
theorem dX10_pass_26 : decode cX10_pass 26 = .ok (.aload_n 0, 1) := by decide +kernel
theorem dX10_pass_27 : decode cX10_pass 27 = .ok (.invokevirtual 157, 3) := by decide +kernel
theorem dX10_pass_30 : decode cX10_pass 30 = .ok (.aload_n 0, 1) := by decide +kernel
theorem dX10_pass_31 : decode cX10_pass 31 = .ok (.getfield 16, 3) := by decide +kernel
theorem dX10_pass_34 : decode cX10_pass 34 = .ok (.aload_n 0, 1) := by decide +kernel
theorem dX10_pass_35 : decode cX10_pass 35 = .ok (.getfield 32, 3) := by decide +kernel
theorem dX10_pass_38 : decode cX10_pass 38 = .ok (.iload_n 1, 1) := by decide +kernel
theorem dX10_pass_39 : decode cX10_pass 39 = .ok (.invokestatic 160, 3) := by decide +kernel
theorem dX10_pass_42 : decode cX10_pass 42 = .ok (.aload_n 0, 1) := by decide +kernel
theorem dX10_pass_43 : decode cX10_pass 43 = .ok (.getfield 16, 3) := by decide +kernel
theorem dX10_pass_46 : decode cX10_pass 46 = .ok (.iconst 1, 1) := by decide +kernel
theorem dX10_pass_47 : decode cX10_pass 47 = .ok (.iaload, 1) := by decide +kernel
theorem dX10_pass_48 : decode cX10_pass 48 = .ok (.ireturn, 1) := by decide +kernel
set_option maxRecDepth 20000 in
theorem ggX10_level_X10_in : GoodIn wsX10_level wsX10_in := goodIn_r _ [6] (by decide +kernel) (by decide +kernel)
set_option maxRecDepth 20000 in
theorem gX10_level_X10_in : GoodIn wsX10_level (va_wsS RX10 91 yX10_in wsX10_in) := goodIn_app (goodIn_of _ (by decide +kernel)) ggX10_level_X10_in
set_option maxRecDepth 20000 in
theorem ggX10_level_X10_refused : GoodIn wsX10_level wsX10_refused := goodIn_r _ [10, 11, 38, 39, 40, 41, 42, 43, 44, 45, 46, 47, 48, 49, 50, 51, 52] (by decide +kernel) (by decide +kernel)
set_option maxRecDepth 20000 in
theorem gX10_level_X10_refused : GoodIn wsX10_level (wsV RX10 98 RX10 yX10_refused wsX10_refused) := goodIn_app (goodIn_of _ (by decide +kernel)) ggX10_level_X10_refused
set_option maxRecDepth 20000 in
theorem ggX10_level_X10_note : GoodIn wsX10_level wsX10_note := goodIn_r _ [15, 16, 17, 18, 2, 19, 20, 21, 5, 22, 38, 39, 40, 41, 42, 43, 44, 45, 46, 47, 48, 49, 50, 51, 52] (by decide +kernel) (by decide +kernel)
set_option maxRecDepth 20000 in
theorem gX10_level_X10_note : GoodIn wsX10_level (wsV RX10 157 RX10 yX10_note wsX10_note) := goodIn_app (goodIn_of _ (by decide +kernel)) ggX10_level_X10_note
set_option maxRecDepth 20000 in
theorem ggX10_level_X10_levelOn : GoodIn wsX10_level wsX10_levelOn := goodIn_r _ [25, 26, 27, 5, 28, 29, 30, 31, 32, 33, 34, 35, 36, 37] (by decide +kernel) (by decide +kernel)
set_option maxRecDepth 20000 in
theorem gX10_level_X10_levelOn : GoodIn wsX10_level (va_wsS RX10 164 yX10_levelOn wsX10_levelOn) := goodIn_app (goodIn_of _ (by decide +kernel)) ggX10_level_X10_levelOn
set_option maxRecDepth 20000 in
theorem ggX10_level_X10_domainOf : GoodIn wsX10_level wsX10_domainOf := goodIn_r _ [28] (by decide +kernel) (by decide +kernel)
set_option maxRecDepth 20000 in
theorem gX10_level_X10_domainOf : GoodIn wsX10_level (va_wsS RX10 58 yX10_domainOf wsX10_domainOf) := goodIn_app (goodIn_of _ (by decide +kernel)) ggX10_level_X10_domainOf
theorem dX10_level_0 : decode cX10_level 0 = .ok (.aload_n 0, 1) := by decide +kernel
theorem dX10_level_1 : decode cX10_level 1 = .ok (.iload_n 1, 1) := by decide +kernel
theorem dX10_level_2 : decode cX10_level 2 = .ok (.i2l, 1) := by decide +kernel
theorem dX10_level_3 : decode cX10_level 3 = .ok (.lconst 0, 1) := by decide +kernel
theorem dX10_level_4 : decode cX10_level 4 = .ok (.ldc2_w 105, 3) := by decide +kernel
theorem dX10_level_7 : decode cX10_level 7 = .ok (.invokestatic 91, 3) := by decide +kernel
theorem dX10_level_10 : decode cX10_level 10 = .ok (.ifCond .eq 7, 3) := by decide +kernel
theorem dX10_level_13 : decode cX10_level 13 = .ok (.iconst 0, 1) := by decide +kernel
theorem dX10_level_14 : decode cX10_level 14 = .ok (.goto 4, 3) := by decide +kernel
theorem dX10_level_17 : decode cX10_level 17 = .ok (.iconst 1, 1) := by decide +kernel
theorem dX10_level_18 : decode cX10_level 18 = .ok (.invokevirtual 98, 3) := by decide +kernel
theorem dX10_level_21 : decode cX10_level 21 = .ok (.ifCond .eq 5, 3) := by decide +kernel
theorem dX10_level_24 : decode cX10_level 24 = .ok (.iconst 0, 1) := by decide +kernel
theorem dX10_level_25 : decode cX10_level 25 = .ok (.ireturn, 1) := by decide +kernel
theorem dX10_level_26 : decode cX10_level 26 = .ok (.aload_n 0, 1) := by decide +kernel
theorem dX10_level_27 : decode cX10_level 27 = .ok (.invokevirtual 157, 3) := by decide +kernel
theorem dX10_level_30 : decode cX10_level 30 = .ok (.aload_n 0, 1) := by decide +kernel
theorem dX10_level_31 : decode cX10_level 31 = .ok (.getfield 16, 3) := by decide +kernel
theorem dX10_level_34 : decode cX10_level 34 = .ok (.iload_n 1, 1) := by decide +kernel
theorem dX10_level_35 : decode cX10_level 35 = .ok (.invokestatic 164, 3) := by decide +kernel
theorem dX10_level_38 : decode cX10_level 38 = .ok (.aload_n 0, 1) := by decide +kernel
theorem dX10_level_39 : decode cX10_level 39 = .ok (.getfield 16, 3) := by decide +kernel
theorem dX10_level_42 : decode cX10_level 42 = .ok (.invokestatic 58, 3) := by decide +kernel
theorem dX10_level_45 : decode cX10_level 45 = .ok (.ireturn, 1) := by decide +kernel
set_option maxRecDepth 20000 in
theorem ggX10_setTime_X10_in : GoodIn wsX10_setTime wsX10_in := goodIn_r _ [6] (by decide +kernel) (by decide +kernel)
set_option maxRecDepth 20000 in
theorem gX10_setTime_X10_in : GoodIn wsX10_setTime (va_wsS RX10 91 yX10_in wsX10_in) := goodIn_app (goodIn_of _ (by decide +kernel)) ggX10_setTime_X10_in
set_option maxRecDepth 20000 in
theorem ggX10_setTime_X10_domainOf : GoodIn wsX10_setTime wsX10_domainOf := goodIn_r _ [9] (by decide +kernel) (by decide +kernel)
set_option maxRecDepth 20000 in
theorem gX10_setTime_X10_domainOf : GoodIn wsX10_setTime (va_wsS RX10 58 yX10_domainOf wsX10_domainOf) := goodIn_app (goodIn_of _ (by decide +kernel)) ggX10_setTime_X10_domainOf
set_option maxRecDepth 20000 in
theorem ggX10_setTime_X10_refused : GoodIn wsX10_setTime wsX10_refused := goodIn_r _ [13, 14, 26, 27, 28, 29, 30, 31, 32, 33, 34, 35, 36, 37, 38, 39, 40] (by decide +kernel) (by decide +kernel)
set_option maxRecDepth 20000 in
theorem gX10_setTime_X10_refused : GoodIn wsX10_setTime (wsV RX10 98 RX10 yX10_refused wsX10_refused) := goodIn_app (goodIn_of _ (by decide +kernel)) ggX10_setTime_X10_refused
set_option maxRecDepth 20000 in
theorem ggX10_setTime_X10_note : GoodIn wsX10_setTime wsX10_note := goodIn_r _ [18, 19, 20, 21, 2, 22, 23, 24, 5, 25, 26, 27, 28, 29, 30, 31, 32, 33, 34, 35, 36, 37, 38, 39, 40] (by decide +kernel) (by decide +kernel)
set_option maxRecDepth 20000 in
theorem gX10_setTime_X10_note : GoodIn wsX10_setTime (wsV RX10 157 RX10 yX10_note wsX10_note) := goodIn_app (goodIn_of _ (by decide +kernel)) ggX10_setTime_X10_note
theorem dX10_setTime_0 : decode cX10_setTime 0 = .ok (.aload_n 0, 1) := by decide +kernel
theorem dX10_setTime_1 : decode cX10_setTime 1 = .ok (.iload_n 1, 1) := by decide +kernel
theorem dX10_setTime_2 : decode cX10_setTime 2 = .ok (.i2l, 1) := by decide +kernel
theorem dX10_setTime_3 : decode cX10_setTime 3 = .ok (.lconst 0, 1) := by decide +kernel
theorem dX10_setTime_4 : decode cX10_setTime 4 = .ok (.ldc2_w 167, 3) := by decide +kernel
theorem dX10_setTime_7 : decode cX10_setTime 7 = .ok (.invokestatic 91, 3) := by decide +kernel
theorem dX10_setTime_10 : decode cX10_setTime 10 = .ok (.ifCond .ne 7, 3) := by decide +kernel
theorem dX10_setTime_13 : decode cX10_setTime 13 = .ok (.iconst 1, 1) := by decide +kernel
theorem dX10_setTime_14 : decode cX10_setTime 14 = .ok (.goto 18, 3) := by decide +kernel
theorem dX10_setTime_17 : decode cX10_setTime 17 = .ok (.aload_n 0, 1) := by decide +kernel
theorem dX10_setTime_18 : decode cX10_setTime 18 = .ok (.getfield 16, 3) := by decide +kernel
theorem dX10_setTime_21 : decode cX10_setTime 21 = .ok (.invokestatic 58, 3) := by decide +kernel
theorem dX10_setTime_24 : decode cX10_setTime 24 = .ok (.ifCond .eq 7, 3) := by decide +kernel
theorem dX10_setTime_27 : decode cX10_setTime 27 = .ok (.iconst 2, 1) := by decide +kernel
theorem dX10_setTime_28 : decode cX10_setTime 28 = .ok (.goto 4, 3) := by decide +kernel
theorem dX10_setTime_31 : decode cX10_setTime 31 = .ok (.iconst 0, 1) := by decide +kernel
theorem dX10_setTime_32 : decode cX10_setTime 32 = .ok (.invokevirtual 98, 3) := by decide +kernel
theorem dX10_setTime_35 : decode cX10_setTime 35 = .ok (.ifCond .eq 5, 3) := by decide +kernel
theorem dX10_setTime_38 : decode cX10_setTime 38 = .ok (.iconst 0, 1) := by decide +kernel
theorem dX10_setTime_39 : decode cX10_setTime 39 = .ok (.ireturn, 1) := by decide +kernel
theorem dX10_setTime_40 : decode cX10_setTime 40 = .ok (.aload_n 0, 1) := by decide +kernel
theorem dX10_setTime_41 : decode cX10_setTime 41 = .ok (.invokevirtual 157, 3) := by decide +kernel
theorem dX10_setTime_44 : decode cX10_setTime 44 = .ok (.aload_n 0, 1) := by decide +kernel
theorem dX10_setTime_45 : decode cX10_setTime 45 = .ok (.getfield 16, 3) := by decide +kernel
theorem dX10_setTime_48 : decode cX10_setTime 48 = .ok (.iconst 1, 1) := by decide +kernel
theorem dX10_setTime_49 : decode cX10_setTime 49 = .ok (.iaload, 1) := by decide +kernel
theorem dX10_setTime_50 : decode cX10_setTime 50 = .ok (.istore_n 2, 1) := by decide +kernel
theorem dX10_setTime_51 : decode cX10_setTime 51 = .ok (.aload_n 0, 1) := by decide +kernel
theorem dX10_setTime_52 : decode cX10_setTime 52 = .ok (.getfield 16, 3) := by decide +kernel
theorem dX10_setTime_55 : decode cX10_setTime 55 = .ok (.iconst 1, 1) := by decide +kernel
theorem dX10_setTime_56 : decode cX10_setTime 56 = .ok (.iload_n 1, 1) := by decide +kernel
theorem dX10_setTime_57 : decode cX10_setTime 57 = .ok (.iastore, 1) := by decide +kernel
theorem dX10_setTime_58 : decode cX10_setTime 58 = .ok (.aload_n 0, 1) := by decide +kernel
theorem dX10_setTime_59 : decode cX10_setTime 59 = .ok (.getfield 16, 3) := by decide +kernel
theorem dX10_setTime_62 : decode cX10_setTime 62 = .ok (.iconst 2, 1) := by decide +kernel
theorem dX10_setTime_63 : decode cX10_setTime 63 = .ok (.iconst 0, 1) := by decide +kernel
theorem dX10_setTime_64 : decode cX10_setTime 64 = .ok (.iastore, 1) := by decide +kernel
theorem dX10_setTime_65 : decode cX10_setTime 65 = .ok (.aload_n 0, 1) := by decide +kernel
theorem dX10_setTime_66 : decode cX10_setTime 66 = .ok (.getfield 16, 3) := by decide +kernel
theorem dX10_setTime_69 : decode cX10_setTime 69 = .ok (.iconst 5, 1) := by decide +kernel
theorem dX10_setTime_70 : decode cX10_setTime 70 = .ok (.iconst 1, 1) := by decide +kernel
theorem dX10_setTime_71 : decode cX10_setTime 71 = .ok (.iastore, 1) := by decide +kernel
theorem dX10_setTime_72 : decode cX10_setTime 72 = .ok (.iload_n 2, 1) := by decide +kernel
theorem dX10_setTime_73 : decode cX10_setTime 73 = .ok (.ireturn, 1) := by decide +kernel
set_option maxRecDepth 20000 in
theorem ggX10_correct_X10_in : GoodIn wsX10_correct wsX10_in := goodIn_r _ [7] (by decide +kernel) (by decide +kernel)
set_option maxRecDepth 20000 in
theorem gX10_correct_X10_in : GoodIn wsX10_correct (va_wsS RX10 91 yX10_in wsX10_in) := goodIn_app (goodIn_of _ (by decide +kernel)) ggX10_correct_X10_in
set_option maxRecDepth 20000 in
theorem ggX10_correct_X10_domainOf : GoodIn wsX10_correct wsX10_domainOf := goodIn_r _ [10] (by decide +kernel) (by decide +kernel)
set_option maxRecDepth 20000 in
theorem gX10_correct_X10_domainOf : GoodIn wsX10_correct (va_wsS RX10 58 yX10_domainOf wsX10_domainOf) := goodIn_app (goodIn_of _ (by decide +kernel)) ggX10_correct_X10_domainOf
set_option maxRecDepth 20000 in
theorem ggX10_correct_X10_refused : GoodIn wsX10_correct wsX10_refused := goodIn_r _ [14, 15, 27, 28, 29, 30, 31, 32, 33, 34, 35, 36, 37, 38, 39, 40, 41] (by decide +kernel) (by decide +kernel)
set_option maxRecDepth 20000 in
theorem gX10_correct_X10_refused : GoodIn wsX10_correct (wsV RX10 98 RX10 yX10_refused wsX10_refused) := goodIn_app (goodIn_of _ (by decide +kernel)) ggX10_correct_X10_refused
set_option maxRecDepth 20000 in
theorem ggX10_correct_X10_note : GoodIn wsX10_correct wsX10_note := goodIn_r _ [19, 20, 21, 22, 3, 23, 24, 25, 6, 26, 27, 28, 29, 30, 31, 32, 33, 34, 35, 36, 37, 38, 39, 40, 41] (by decide +kernel) (by decide +kernel)
set_option maxRecDepth 20000 in
theorem gX10_correct_X10_note : GoodIn wsX10_correct (wsV RX10 157 RX10 yX10_note wsX10_note) := goodIn_app (goodIn_of _ (by decide +kernel)) ggX10_correct_X10_note
theorem dX10_correct_0 : decode cX10_correct 0 = .ok (.aload_n 0, 1) := by decide +kernel
theorem dX10_correct_1 : decode cX10_correct 1 = .ok (.iload_n 1, 1) := by decide +kernel
theorem dX10_correct_2 : decode cX10_correct 2 = .ok (.i2l, 1) := by decide +kernel
theorem dX10_correct_3 : decode cX10_correct 3 = .ok (.ldc2_w 169, 3) := by decide +kernel
theorem dX10_correct_6 : decode cX10_correct 6 = .ok (.ldc2_w 171, 3) := by decide +kernel
theorem dX10_correct_9 : decode cX10_correct 9 = .ok (.invokestatic 91, 3) := by decide +kernel
theorem dX10_correct_12 : decode cX10_correct 12 = .ok (.ifCond .ne 7, 3) := by decide +kernel
theorem dX10_correct_15 : decode cX10_correct 15 = .ok (.iconst 1, 1) := by decide +kernel
theorem dX10_correct_16 : decode cX10_correct 16 = .ok (.goto 18, 3) := by decide +kernel
theorem dX10_correct_19 : decode cX10_correct 19 = .ok (.aload_n 0, 1) := by decide +kernel
theorem dX10_correct_20 : decode cX10_correct 20 = .ok (.getfield 16, 3) := by decide +kernel
theorem dX10_correct_23 : decode cX10_correct 23 = .ok (.invokestatic 58, 3) := by decide +kernel
theorem dX10_correct_26 : decode cX10_correct 26 = .ok (.ifCond .eq 7, 3) := by decide +kernel
theorem dX10_correct_29 : decode cX10_correct 29 = .ok (.iconst 2, 1) := by decide +kernel
theorem dX10_correct_30 : decode cX10_correct 30 = .ok (.goto 4, 3) := by decide +kernel
theorem dX10_correct_33 : decode cX10_correct 33 = .ok (.iconst 0, 1) := by decide +kernel
theorem dX10_correct_34 : decode cX10_correct 34 = .ok (.invokevirtual 98, 3) := by decide +kernel
theorem dX10_correct_37 : decode cX10_correct 37 = .ok (.ifCond .eq 5, 3) := by decide +kernel
theorem dX10_correct_40 : decode cX10_correct 40 = .ok (.iconst 0, 1) := by decide +kernel
theorem dX10_correct_41 : decode cX10_correct 41 = .ok (.ireturn, 1) := by decide +kernel
theorem dX10_correct_42 : decode cX10_correct 42 = .ok (.aload_n 0, 1) := by decide +kernel
theorem dX10_correct_43 : decode cX10_correct 43 = .ok (.invokevirtual 157, 3) := by decide +kernel
theorem dX10_correct_46 : decode cX10_correct 46 = .ok (.aload_n 0, 1) := by decide +kernel
theorem dX10_correct_47 : decode cX10_correct 47 = .ok (.getfield 16, 3) := by decide +kernel
theorem dX10_correct_50 : decode cX10_correct 50 = .ok (.iconst 4, 1) := by decide +kernel
theorem dX10_correct_51 : decode cX10_correct 51 = .ok (.iaload, 1) := by decide +kernel
theorem dX10_correct_52 : decode cX10_correct 52 = .ok (.istore_n 2, 1) := by decide +kernel
theorem dX10_correct_53 : decode cX10_correct 53 = .ok (.aload_n 0, 1) := by decide +kernel
theorem dX10_correct_54 : decode cX10_correct 54 = .ok (.getfield 16, 3) := by decide +kernel
theorem dX10_correct_57 : decode cX10_correct 57 = .ok (.iconst 4, 1) := by decide +kernel
theorem dX10_correct_58 : decode cX10_correct 58 = .ok (.iload_n 1, 1) := by decide +kernel
theorem dX10_correct_59 : decode cX10_correct 59 = .ok (.iastore, 1) := by decide +kernel
theorem dX10_correct_60 : decode cX10_correct 60 = .ok (.iload_n 2, 1) := by decide +kernel
theorem dX10_correct_61 : decode cX10_correct 61 = .ok (.ireturn, 1) := by decide +kernel
set_option maxRecDepth 20000 in
theorem ggX10_age_X10_in : GoodIn wsX10_age wsX10_in := goodIn_r _ [7] (by decide +kernel) (by decide +kernel)
set_option maxRecDepth 20000 in
theorem gX10_age_X10_in : GoodIn wsX10_age (va_wsS RX10 91 yX10_in wsX10_in) := goodIn_app (goodIn_of _ (by decide +kernel)) ggX10_age_X10_in
set_option maxRecDepth 20000 in
theorem ggX10_age_X10_refused : GoodIn wsX10_age wsX10_refused := goodIn_r _ [11, 12, 24, 25, 26, 27, 28, 29, 30, 31, 32, 33, 34, 35, 36, 37, 38] (by decide +kernel) (by decide +kernel)
set_option maxRecDepth 20000 in
theorem gX10_age_X10_refused : GoodIn wsX10_age (wsV RX10 98 RX10 yX10_refused wsX10_refused) := goodIn_app (goodIn_of _ (by decide +kernel)) ggX10_age_X10_refused
set_option maxRecDepth 20000 in
theorem ggX10_age_X10_note : GoodIn wsX10_age wsX10_note := goodIn_r _ [16, 17, 18, 19, 3, 20, 21, 22, 6, 23, 24, 25, 26, 27, 28, 29, 30, 31, 32, 33, 34, 35, 36, 37, 38] (by decide +kernel) (by decide +kernel)
set_option maxRecDepth 20000 in
theorem gX10_age_X10_note : GoodIn wsX10_age (wsV RX10 157 RX10 yX10_note wsX10_note) := goodIn_app (goodIn_of _ (by decide +kernel)) ggX10_age_X10_note
theorem dX10_age_0 : decode cX10_age 0 = .ok (.aload_n 0, 1) := by decide +kernel
theorem dX10_age_1 : decode cX10_age 1 = .ok (.iload_n 1, 1) := by decide +kernel
theorem dX10_age_2 : decode cX10_age 2 = .ok (.i2l, 1) := by decide +kernel
theorem dX10_age_3 : decode cX10_age 3 = .ok (.ldc2_w 169, 3) := by decide +kernel
theorem dX10_age_6 : decode cX10_age 6 = .ok (.ldc2_w 171, 3) := by decide +kernel
theorem dX10_age_9 : decode cX10_age 9 = .ok (.invokestatic 91, 3) := by decide +kernel
theorem dX10_age_12 : decode cX10_age 12 = .ok (.ifCond .eq 7, 3) := by decide +kernel
theorem dX10_age_15 : decode cX10_age 15 = .ok (.iconst 0, 1) := by decide +kernel
theorem dX10_age_16 : decode cX10_age 16 = .ok (.goto 4, 3) := by decide +kernel
theorem dX10_age_19 : decode cX10_age 19 = .ok (.iconst 1, 1) := by decide +kernel
theorem dX10_age_20 : decode cX10_age 20 = .ok (.invokevirtual 98, 3) := by decide +kernel
theorem dX10_age_23 : decode cX10_age 23 = .ok (.ifCond .eq 5, 3) := by decide +kernel
theorem dX10_age_26 : decode cX10_age 26 = .ok (.iconst 0, 1) := by decide +kernel
theorem dX10_age_27 : decode cX10_age 27 = .ok (.ireturn, 1) := by decide +kernel
theorem dX10_age_28 : decode cX10_age 28 = .ok (.aload_n 0, 1) := by decide +kernel
theorem dX10_age_29 : decode cX10_age 29 = .ok (.invokevirtual 157, 3) := by decide +kernel
theorem dX10_age_32 : decode cX10_age 32 = .ok (.aload_n 0, 1) := by decide +kernel
theorem dX10_age_33 : decode cX10_age 33 = .ok (.getfield 16, 3) := by decide +kernel
theorem dX10_age_36 : decode cX10_age 36 = .ok (.iconst 3, 1) := by decide +kernel
theorem dX10_age_37 : decode cX10_age 37 = .ok (.iaload, 1) := by decide +kernel
theorem dX10_age_38 : decode cX10_age 38 = .ok (.istore_n 2, 1) := by decide +kernel
theorem dX10_age_39 : decode cX10_age 39 = .ok (.aload_n 0, 1) := by decide +kernel
theorem dX10_age_40 : decode cX10_age 40 = .ok (.getfield 16, 3) := by decide +kernel
theorem dX10_age_43 : decode cX10_age 43 = .ok (.iconst 3, 1) := by decide +kernel
theorem dX10_age_44 : decode cX10_age 44 = .ok (.iload_n 1, 1) := by decide +kernel
theorem dX10_age_45 : decode cX10_age 45 = .ok (.iastore, 1) := by decide +kernel
theorem dX10_age_46 : decode cX10_age 46 = .ok (.iload_n 2, 1) := by decide +kernel
theorem dX10_age_47 : decode cX10_age 47 = .ok (.ireturn, 1) := by decide +kernel
set_option maxRecDepth 20000 in
theorem ggX10_write_X10_isRegister : GoodIn wsX10_write wsX10_isRegister := goodIn_r _ [6, 7, 8, 9, 5, 10] (by decide +kernel) (by decide +kernel)
set_option maxRecDepth 20000 in
theorem gX10_write_X10_isRegister : GoodIn wsX10_write (va_wsS RX10 146 yX10_isRegister wsX10_isRegister) := goodIn_app (goodIn_of _ (by decide +kernel)) ggX10_write_X10_isRegister
set_option maxRecDepth 20000 in
theorem ggX10_write_X10_in : GoodIn wsX10_write wsX10_in := goodIn_r _ [10] (by decide +kernel) (by decide +kernel)
set_option maxRecDepth 20000 in
theorem gX10_write_X10_in : GoodIn wsX10_write (va_wsS RX10 91 yX10_in wsX10_in) := goodIn_app (goodIn_of _ (by decide +kernel)) ggX10_write_X10_in
set_option maxRecDepth 20000 in
theorem ggX10_write_X10_domainOf : GoodIn wsX10_write wsX10_domainOf := goodIn_r _ [13] (by decide +kernel) (by decide +kernel)
set_option maxRecDepth 20000 in
theorem gX10_write_X10_domainOf : GoodIn wsX10_write (va_wsS RX10 58 yX10_domainOf wsX10_domainOf) := goodIn_app (goodIn_of _ (by decide +kernel)) ggX10_write_X10_domainOf
set_option maxRecDepth 20000 in
theorem ggX10_write_X10_refused : GoodIn wsX10_write wsX10_refused := goodIn_r _ [17, 18, 30, 31, 32, 33, 34, 35, 36, 37, 38, 39, 40, 41, 42, 43, 44] (by decide +kernel) (by decide +kernel)
set_option maxRecDepth 20000 in
theorem gX10_write_X10_refused : GoodIn wsX10_write (wsV RX10 98 RX10 yX10_refused wsX10_refused) := goodIn_app (goodIn_of _ (by decide +kernel)) ggX10_write_X10_refused
set_option maxRecDepth 20000 in
theorem ggX10_write_X10_note : GoodIn wsX10_write wsX10_note := goodIn_r _ [22, 23, 24, 25, 2, 26, 27, 28, 5, 29, 30, 31, 32, 33, 34, 35, 36, 37, 38, 39, 40, 41, 42, 43, 44] (by decide +kernel) (by decide +kernel)
set_option maxRecDepth 20000 in
theorem gX10_write_X10_note : GoodIn wsX10_write (wsV RX10 157 RX10 yX10_note wsX10_note) := goodIn_app (goodIn_of _ (by decide +kernel)) ggX10_write_X10_note
theorem dX10_write_0 : decode cX10_write 0 = .ok (.aload_n 0, 1) := by decide +kernel
theorem dX10_write_1 : decode cX10_write 1 = .ok (.iload_n 1, 1) := by decide +kernel
theorem dX10_write_2 : decode cX10_write 2 = .ok (.invokestatic 146, 3) := by decide +kernel
theorem dX10_write_5 : decode cX10_write 5 = .ok (.ifCond .ne 7, 3) := by decide +kernel
theorem dX10_write_8 : decode cX10_write 8 = .ok (.iconst 1, 1) := by decide +kernel
theorem dX10_write_9 : decode cX10_write 9 = .ok (.goto 34, 3) := by decide +kernel
theorem dX10_write_12 : decode cX10_write 12 = .ok (.iload_n 2, 1) := by decide +kernel
theorem dX10_write_13 : decode cX10_write 13 = .ok (.i2l, 1) := by decide +kernel
theorem dX10_write_14 : decode cX10_write 14 = .ok (.lconst 0, 1) := by decide +kernel
theorem dX10_write_15 : decode cX10_write 15 = .ok (.ldc2_w 89, 3) := by decide +kernel
theorem dX10_write_18 : decode cX10_write 18 = .ok (.invokestatic 91, 3) := by decide +kernel
theorem dX10_write_21 : decode cX10_write 21 = .ok (.ifCond .ne 7, 3) := by decide +kernel
theorem dX10_write_24 : decode cX10_write 24 = .ok (.iconst 2, 1) := by decide +kernel
theorem dX10_write_25 : decode cX10_write 25 = .ok (.goto 18, 3) := by decide +kernel
theorem dX10_write_28 : decode cX10_write 28 = .ok (.aload_n 0, 1) := by decide +kernel
theorem dX10_write_29 : decode cX10_write 29 = .ok (.getfield 16, 3) := by decide +kernel
theorem dX10_write_32 : decode cX10_write 32 = .ok (.invokestatic 58, 3) := by decide +kernel
theorem dX10_write_35 : decode cX10_write 35 = .ok (.ifCond .eq 7, 3) := by decide +kernel
theorem dX10_write_38 : decode cX10_write 38 = .ok (.iconst 3, 1) := by decide +kernel
theorem dX10_write_39 : decode cX10_write 39 = .ok (.goto 4, 3) := by decide +kernel
theorem dX10_write_42 : decode cX10_write 42 = .ok (.iconst 0, 1) := by decide +kernel
theorem dX10_write_43 : decode cX10_write 43 = .ok (.invokevirtual 98, 3) := by decide +kernel
theorem dX10_write_46 : decode cX10_write 46 = .ok (.ifCond .eq 5, 3) := by decide +kernel
theorem dX10_write_49 : decode cX10_write 49 = .ok (.iconst 0, 1) := by decide +kernel
theorem dX10_write_50 : decode cX10_write 50 = .ok (.ireturn, 1) := by decide +kernel
theorem dX10_write_51 : decode cX10_write 51 = .ok (.aload_n 0, 1) := by decide +kernel
theorem dX10_write_52 : decode cX10_write 52 = .ok (.invokevirtual 157, 3) := by decide +kernel
theorem dX10_write_55 : decode cX10_write 55 = .ok (.aload_n 0, 1) := by decide +kernel
theorem dX10_write_56 : decode cX10_write 56 = .ok (.getfield 16, 3) := by decide +kernel
theorem dX10_write_59 : decode cX10_write 59 = .ok (.bipush 16, 2) := by decide +kernel
theorem dX10_write_61 : decode cX10_write 61 = .ok (.iload_n 1, 1) := by decide +kernel
theorem dX10_write_62 : decode cX10_write 62 = .ok (.iadd, 1) := by decide +kernel
theorem dX10_write_63 : decode cX10_write 63 = .ok (.iaload, 1) := by decide +kernel
theorem dX10_write_64 : decode cX10_write 64 = .ok (.istore_n 3, 1) := by decide +kernel
theorem dX10_write_65 : decode cX10_write 65 = .ok (.aload_n 0, 1) := by decide +kernel
theorem dX10_write_66 : decode cX10_write 66 = .ok (.getfield 16, 3) := by decide +kernel
theorem dX10_write_69 : decode cX10_write 69 = .ok (.bipush 16, 2) := by decide +kernel
theorem dX10_write_71 : decode cX10_write 71 = .ok (.iload_n 1, 1) := by decide +kernel
theorem dX10_write_72 : decode cX10_write 72 = .ok (.iadd, 1) := by decide +kernel
theorem dX10_write_73 : decode cX10_write 73 = .ok (.iload_n 2, 1) := by decide +kernel
theorem dX10_write_74 : decode cX10_write 74 = .ok (.iastore, 1) := by decide +kernel
theorem dX10_write_75 : decode cX10_write 75 = .ok (.iload_n 3, 1) := by decide +kernel
theorem dX10_write_76 : decode cX10_write 76 = .ok (.ireturn, 1) := by decide +kernel
set_option maxRecDepth 20000 in
theorem ggX10_guard_X10_isPin : GoodIn wsX10_guard wsX10_isPin := goodIn_r _ [5, 6, 7, 8, 4, 9] (by decide +kernel) (by decide +kernel)
set_option maxRecDepth 20000 in
theorem gX10_guard_X10_isPin : GoodIn wsX10_guard (va_wsS RX10 149 yX10_isPin wsX10_isPin) := goodIn_app (goodIn_of _ (by decide +kernel)) ggX10_guard_X10_isPin
set_option maxRecDepth 20000 in
theorem ggX10_guard_X10_domainOf : GoodIn wsX10_guard wsX10_domainOf := goodIn_r _ [12] (by decide +kernel) (by decide +kernel)
set_option maxRecDepth 20000 in
theorem gX10_guard_X10_domainOf : GoodIn wsX10_guard (va_wsS RX10 58 yX10_domainOf wsX10_domainOf) := goodIn_app (goodIn_of _ (by decide +kernel)) ggX10_guard_X10_domainOf
set_option maxRecDepth 20000 in
theorem ggX10_guard_X10_refused : GoodIn wsX10_guard wsX10_refused := goodIn_r _ [16, 17, 29, 30, 31, 32, 33, 34, 35, 36, 37, 38, 39, 40, 41, 42, 43] (by decide +kernel) (by decide +kernel)
set_option maxRecDepth 20000 in
theorem gX10_guard_X10_refused : GoodIn wsX10_guard (wsV RX10 98 RX10 yX10_refused wsX10_refused) := goodIn_app (goodIn_of _ (by decide +kernel)) ggX10_guard_X10_refused
set_option maxRecDepth 20000 in
theorem ggX10_guard_X10_note : GoodIn wsX10_guard wsX10_note := goodIn_r _ [21, 22, 23, 24, 1, 25, 26, 27, 4, 28, 29, 30, 31, 32, 33, 34, 35, 36, 37, 38, 39, 40, 41, 42, 43] (by decide +kernel) (by decide +kernel)
set_option maxRecDepth 20000 in
theorem gX10_guard_X10_note : GoodIn wsX10_guard (wsV RX10 157 RX10 yX10_note wsX10_note) := goodIn_app (goodIn_of _ (by decide +kernel)) ggX10_guard_X10_note
theorem dX10_guard_0 : decode cX10_guard 0 = .ok (.aload_n 0, 1) := by decide +kernel
theorem dX10_guard_1 : decode cX10_guard 1 = .ok (.iload_n 1, 1) := by decide +kernel
theorem dX10_guard_2 : decode cX10_guard 2 = .ok (.invokestatic 149, 3) := by decide +kernel
theorem dX10_guard_5 : decode cX10_guard 5 = .ok (.ifCond .ne 7, 3) := by decide +kernel
theorem dX10_guard_8 : decode cX10_guard 8 = .ok (.iconst 1, 1) := by decide +kernel
theorem dX10_guard_9 : decode cX10_guard 9 = .ok (.goto 18, 3) := by decide +kernel
theorem dX10_guard_12 : decode cX10_guard 12 = .ok (.aload_n 0, 1) := by decide +kernel
theorem dX10_guard_13 : decode cX10_guard 13 = .ok (.getfield 16, 3) := by decide +kernel
theorem dX10_guard_16 : decode cX10_guard 16 = .ok (.invokestatic 58, 3) := by decide +kernel
theorem dX10_guard_19 : decode cX10_guard 19 = .ok (.ifCond .eq 7, 3) := by decide +kernel
theorem dX10_guard_22 : decode cX10_guard 22 = .ok (.iconst 2, 1) := by decide +kernel
theorem dX10_guard_23 : decode cX10_guard 23 = .ok (.goto 4, 3) := by decide +kernel
theorem dX10_guard_26 : decode cX10_guard 26 = .ok (.iconst 0, 1) := by decide +kernel
theorem dX10_guard_27 : decode cX10_guard 27 = .ok (.invokevirtual 98, 3) := by decide +kernel
theorem dX10_guard_30 : decode cX10_guard 30 = .ok (.ifCond .eq 5, 3) := by decide +kernel
theorem dX10_guard_33 : decode cX10_guard 33 = .ok (.iconst 0, 1) := by decide +kernel
theorem dX10_guard_34 : decode cX10_guard 34 = .ok (.ireturn, 1) := by decide +kernel
theorem dX10_guard_35 : decode cX10_guard 35 = .ok (.aload_n 0, 1) := by decide +kernel
theorem dX10_guard_36 : decode cX10_guard 36 = .ok (.invokevirtual 157, 3) := by decide +kernel
theorem dX10_guard_39 : decode cX10_guard 39 = .ok (.aload_n 0, 1) := by decide +kernel
theorem dX10_guard_40 : decode cX10_guard 40 = .ok (.getfield 16, 3) := by decide +kernel
theorem dX10_guard_43 : decode cX10_guard 43 = .ok (.bipush 24, 2) := by decide +kernel
theorem dX10_guard_45 : decode cX10_guard 45 = .ok (.iload_n 1, 1) := by decide +kernel
theorem dX10_guard_46 : decode cX10_guard 46 = .ok (.iadd, 1) := by decide +kernel
theorem dX10_guard_47 : decode cX10_guard 47 = .ok (.iload_n 2, 1) := by decide +kernel
theorem dX10_guard_48 : decode cX10_guard 48 = .ok (.ifCond .eq 7, 3) := by decide +kernel
theorem dX10_guard_51 : decode cX10_guard 51 = .ok (.iconst 1, 1) := by decide +kernel
theorem dX10_guard_52 : decode cX10_guard 52 = .ok (.goto 4, 3) := by decide +kernel
theorem dX10_guard_55 : decode cX10_guard 55 = .ok (.iconst 0, 1) := by decide +kernel
theorem dX10_guard_56 : decode cX10_guard 56 = .ok (.iastore, 1) := by decide +kernel
theorem dX10_guard_57 : decode cX10_guard 57 = .ok (.aload_n 0, 1) := by decide +kernel
theorem dX10_guard_58 : decode cX10_guard 58 = .ok (.getfield 16, 3) := by decide +kernel
theorem dX10_guard_61 : decode cX10_guard 61 = .ok (.bipush 24, 2) := by decide +kernel
theorem dX10_guard_63 : decode cX10_guard 63 = .ok (.iaload, 1) := by decide +kernel
theorem dX10_guard_64 : decode cX10_guard 64 = .ok (.aload_n 0, 1) := by decide +kernel
theorem dX10_guard_65 : decode cX10_guard 65 = .ok (.getfield 16, 3) := by decide +kernel
theorem dX10_guard_68 : decode cX10_guard 68 = .ok (.bipush 25, 2) := by decide +kernel
theorem dX10_guard_70 : decode cX10_guard 70 = .ok (.iaload, 1) := by decide +kernel
theorem dX10_guard_71 : decode cX10_guard 71 = .ok (.iadd, 1) := by decide +kernel
theorem dX10_guard_72 : decode cX10_guard 72 = .ok (.aload_n 0, 1) := by decide +kernel
theorem dX10_guard_73 : decode cX10_guard 73 = .ok (.getfield 16, 3) := by decide +kernel
theorem dX10_guard_76 : decode cX10_guard 76 = .ok (.bipush 26, 2) := by decide +kernel
theorem dX10_guard_78 : decode cX10_guard 78 = .ok (.iaload, 1) := by decide +kernel
theorem dX10_guard_79 : decode cX10_guard 79 = .ok (.iadd, 1) := by decide +kernel
theorem dX10_guard_80 : decode cX10_guard 80 = .ok (.ireturn, 1) := by decide +kernel
set_option maxRecDepth 20000 in
theorem ggX10_tamper_X10_isPin : GoodIn wsX10_tamper wsX10_isPin := goodIn_r _ [5, 6, 7, 8, 4, 9] (by decide +kernel) (by decide +kernel)
set_option maxRecDepth 20000 in
theorem gX10_tamper_X10_isPin : GoodIn wsX10_tamper (va_wsS RX10 149 yX10_isPin wsX10_isPin) := goodIn_app (goodIn_of _ (by decide +kernel)) ggX10_tamper_X10_isPin
set_option maxRecDepth 20000 in
theorem ggX10_tamper_X10_refused : GoodIn wsX10_tamper wsX10_refused := goodIn_r _ [13, 14, 32, 33, 34, 35, 36, 37, 38, 39, 40, 41, 42, 43, 44, 45, 46] (by decide +kernel) (by decide +kernel)
set_option maxRecDepth 20000 in
theorem gX10_tamper_X10_refused : GoodIn wsX10_tamper (wsV RX10 98 RX10 yX10_refused wsX10_refused) := goodIn_app (goodIn_of _ (by decide +kernel)) ggX10_tamper_X10_refused
set_option maxRecDepth 20000 in
theorem ggX10_tamper_X10_note : GoodIn wsX10_tamper wsX10_note := goodIn_r _ [18, 19, 20, 21, 1, 22, 23, 24, 4, 25, 32, 33, 34, 35, 36, 37, 38, 39, 40, 41, 42, 43, 44, 45, 46] (by decide +kernel) (by decide +kernel)
set_option maxRecDepth 20000 in
theorem gX10_tamper_X10_note : GoodIn wsX10_tamper (wsV RX10 157 RX10 yX10_note wsX10_note) := goodIn_app (goodIn_of _ (by decide +kernel)) ggX10_tamper_X10_note
set_option maxRecDepth 20000 in
theorem ggX10_tamper_X10_tamperOn : GoodIn wsX10_tamper wsX10_tamperOn := goodIn_r _ [28, 29, 30, 4, 31] (by decide +kernel) (by decide +kernel)
set_option maxRecDepth 20000 in
theorem gX10_tamper_X10_tamperOn : GoodIn wsX10_tamper (va_wsS RX10 173 yX10_tamperOn wsX10_tamperOn) := goodIn_app (goodIn_of _ (by decide +kernel)) ggX10_tamper_X10_tamperOn
theorem dX10_tamper_0 : decode cX10_tamper 0 = .ok (.aload_n 0, 1) := by decide +kernel
theorem dX10_tamper_1 : decode cX10_tamper 1 = .ok (.iload_n 1, 1) := by decide +kernel
theorem dX10_tamper_2 : decode cX10_tamper 2 = .ok (.invokestatic 149, 3) := by decide +kernel
theorem dX10_tamper_5 : decode cX10_tamper 5 = .ok (.ifCond .eq 7, 3) := by decide +kernel
theorem dX10_tamper_8 : decode cX10_tamper 8 = .ok (.iconst 0, 1) := by decide +kernel
theorem dX10_tamper_9 : decode cX10_tamper 9 = .ok (.goto 4, 3) := by decide +kernel
theorem dX10_tamper_12 : decode cX10_tamper 12 = .ok (.iconst 1, 1) := by decide +kernel
theorem dX10_tamper_13 : decode cX10_tamper 13 = .ok (.invokevirtual 98, 3) := by decide +kernel
theorem dX10_tamper_16 : decode cX10_tamper 16 = .ok (.ifCond .eq 5, 3) := by decide +kernel
theorem dX10_tamper_19 : decode cX10_tamper 19 = .ok (.iconst 0, 1) := by decide +kernel
theorem dX10_tamper_20 : decode cX10_tamper 20 = .ok (.ireturn, 1) := by decide +kernel
theorem dX10_tamper_21 : decode cX10_tamper 21 = .ok (.aload_n 0, 1) := by decide +kernel
theorem dX10_tamper_22 : decode cX10_tamper 22 = .ok (.invokevirtual 157, 3) := by decide +kernel
theorem dX10_tamper_25 : decode cX10_tamper 25 = .ok (.aload_n 0, 1) := by decide +kernel
theorem dX10_tamper_26 : decode cX10_tamper 26 = .ok (.getfield 16, 3) := by decide +kernel
theorem dX10_tamper_29 : decode cX10_tamper 29 = .ok (.iload_n 1, 1) := by decide +kernel
theorem dX10_tamper_30 : decode cX10_tamper 30 = .ok (.invokestatic 173, 3) := by decide +kernel
theorem dX10_tamper_33 : decode cX10_tamper 33 = .ok (.aload_n 0, 1) := by decide +kernel
theorem dX10_tamper_34 : decode cX10_tamper 34 = .ok (.getfield 16, 3) := by decide +kernel
theorem dX10_tamper_37 : decode cX10_tamper 37 = .ok (.bipush 11, 2) := by decide +kernel
theorem dX10_tamper_39 : decode cX10_tamper 39 = .ok (.iaload, 1) := by decide +kernel
theorem dX10_tamper_40 : decode cX10_tamper 40 = .ok (.ireturn, 1) := by decide +kernel
set_option maxRecDepth 20000 in
theorem ggX10_clearRows_X10_domainOf : GoodIn wsX10_clearRows wsX10_domainOf := goodIn_r _ [5] (by decide +kernel) (by decide +kernel)
set_option maxRecDepth 20000 in
theorem gX10_clearRows_X10_domainOf : GoodIn wsX10_clearRows (va_wsS RX10 58 yX10_domainOf wsX10_domainOf) := goodIn_app (goodIn_of _ (by decide +kernel)) ggX10_clearRows_X10_domainOf
set_option maxRecDepth 20000 in
theorem ggX10_clearRows_X10_refused : GoodIn wsX10_clearRows wsX10_refused := goodIn_r _ [9, 10, 22, 23, 24, 25, 26, 27, 28, 29, 30, 31, 32, 33, 34, 35, 36] (by decide +kernel) (by decide +kernel)
set_option maxRecDepth 20000 in
theorem gX10_clearRows_X10_refused : GoodIn wsX10_clearRows (wsV RX10 98 RX10 yX10_refused wsX10_refused) := goodIn_app (goodIn_of _ (by decide +kernel)) ggX10_clearRows_X10_refused
set_option maxRecDepth 20000 in
theorem ggX10_clearRows_X10_note : GoodIn wsX10_clearRows wsX10_note := goodIn_r _ [14, 15, 16, 17, 1, 18, 19, 20, 4, 21, 22, 23, 24, 25, 26, 27, 28, 29, 30, 31, 32, 33, 34, 35, 36] (by decide +kernel) (by decide +kernel)
set_option maxRecDepth 20000 in
theorem gX10_clearRows_X10_note : GoodIn wsX10_clearRows (wsV RX10 157 RX10 yX10_note wsX10_note) := goodIn_app (goodIn_of _ (by decide +kernel)) ggX10_clearRows_X10_note
theorem dX10_clearRows_0 : decode cX10_clearRows 0 = .ok (.aload_n 0, 1) := by decide +kernel
theorem dX10_clearRows_1 : decode cX10_clearRows 1 = .ok (.aload_n 0, 1) := by decide +kernel
theorem dX10_clearRows_2 : decode cX10_clearRows 2 = .ok (.getfield 16, 3) := by decide +kernel
theorem dX10_clearRows_5 : decode cX10_clearRows 5 = .ok (.invokestatic 58, 3) := by decide +kernel
theorem dX10_clearRows_8 : decode cX10_clearRows 8 = .ok (.ifCond .eq 7, 3) := by decide +kernel
theorem dX10_clearRows_11 : decode cX10_clearRows 11 = .ok (.iconst 1, 1) := by decide +kernel
theorem dX10_clearRows_12 : decode cX10_clearRows 12 = .ok (.goto 4, 3) := by decide +kernel
theorem dX10_clearRows_15 : decode cX10_clearRows 15 = .ok (.iconst 0, 1) := by decide +kernel
theorem dX10_clearRows_16 : decode cX10_clearRows 16 = .ok (.invokevirtual 98, 3) := by decide +kernel
theorem dX10_clearRows_19 : decode cX10_clearRows 19 = .ok (.ifCond .eq 5, 3) := by decide +kernel
theorem dX10_clearRows_22 : decode cX10_clearRows 22 = .ok (.iconst 0, 1) := by decide +kernel
theorem dX10_clearRows_23 : decode cX10_clearRows 23 = .ok (.ireturn, 1) := by decide +kernel
theorem dX10_clearRows_24 : decode cX10_clearRows 24 = .ok (.aload_n 0, 1) := by decide +kernel
theorem dX10_clearRows_25 : decode cX10_clearRows 25 = .ok (.invokevirtual 157, 3) := by decide +kernel
theorem dX10_clearRows_28 : decode cX10_clearRows 28 = .ok (.aload_n 0, 1) := by decide +kernel
theorem dX10_clearRows_29 : decode cX10_clearRows 29 = .ok (.getfield 16, 3) := by decide +kernel
theorem dX10_clearRows_32 : decode cX10_clearRows 32 = .ok (.bipush 11, 2) := by decide +kernel
theorem dX10_clearRows_34 : decode cX10_clearRows 34 = .ok (.iaload, 1) := by decide +kernel
theorem dX10_clearRows_35 : decode cX10_clearRows 35 = .ok (.istore_n 1, 1) := by decide +kernel
theorem dX10_clearRows_36 : decode cX10_clearRows 36 = .ok (.aload_n 0, 1) := by decide +kernel
theorem dX10_clearRows_37 : decode cX10_clearRows 37 = .ok (.getfield 16, 3) := by decide +kernel
theorem dX10_clearRows_40 : decode cX10_clearRows 40 = .ok (.bipush 11, 2) := by decide +kernel
theorem dX10_clearRows_42 : decode cX10_clearRows 42 = .ok (.iconst 0, 1) := by decide +kernel
theorem dX10_clearRows_43 : decode cX10_clearRows 43 = .ok (.iastore, 1) := by decide +kernel
theorem dX10_clearRows_44 : decode cX10_clearRows 44 = .ok (.iload_n 1, 1) := by decide +kernel
theorem dX10_clearRows_45 : decode cX10_clearRows 45 = .ok (.ireturn, 1) := by decide +kernel
theorem dX10_setAlarmOn_0 : decode cX10_setAlarmOn 0 = .ok (.aload_n 0, 1) := by decide +kernel
theorem dX10_setAlarmOn_1 : decode cX10_setAlarmOn 1 = .ok (.bipush 27, 2) := by decide +kernel
theorem dX10_setAlarmOn_3 : decode cX10_setAlarmOn 3 = .ok (.iconst 3, 1) := by decide +kernel
theorem dX10_setAlarmOn_4 : decode cX10_setAlarmOn 4 = .ok (.iload_n 1, 1) := by decide +kernel
theorem dX10_setAlarmOn_5 : decode cX10_setAlarmOn 5 = .ok (.imul, 1) := by decide +kernel
theorem dX10_setAlarmOn_6 : decode cX10_setAlarmOn 6 = .ok (.iadd, 1) := by decide +kernel
theorem dX10_setAlarmOn_7 : decode cX10_setAlarmOn 7 = .ok (.iload_n 2, 1) := by decide +kernel
theorem dX10_setAlarmOn_8 : decode cX10_setAlarmOn 8 = .ok (.sipush 1440, 3) := by decide +kernel
theorem dX10_setAlarmOn_11 : decode cX10_setAlarmOn 11 = .ok (.if_icmp .ne 8, 3) := by decide +kernel
theorem dX10_setAlarmOn_14 : decode cX10_setAlarmOn 14 = .ok (.ldc 53, 2) := by decide +kernel
theorem dX10_setAlarmOn_16 : decode cX10_setAlarmOn 16 = .ok (.goto 4, 3) := by decide +kernel
theorem dX10_setAlarmOn_19 : decode cX10_setAlarmOn 19 = .ok (.iload_n 2, 1) := by decide +kernel
theorem dX10_setAlarmOn_20 : decode cX10_setAlarmOn 20 = .ok (.iastore, 1) := by decide +kernel
theorem dX10_setAlarmOn_21 : decode cX10_setAlarmOn 21 = .ok (.aload_n 0, 1) := by decide +kernel
theorem dX10_setAlarmOn_22 : decode cX10_setAlarmOn 22 = .ok (.bipush 27, 2) := by decide +kernel
theorem dX10_setAlarmOn_24 : decode cX10_setAlarmOn 24 = .ok (.iconst 3, 1) := by decide +kernel
theorem dX10_setAlarmOn_25 : decode cX10_setAlarmOn 25 = .ok (.iload_n 1, 1) := by decide +kernel
theorem dX10_setAlarmOn_26 : decode cX10_setAlarmOn 26 = .ok (.imul, 1) := by decide +kernel
theorem dX10_setAlarmOn_27 : decode cX10_setAlarmOn 27 = .ok (.iadd, 1) := by decide +kernel
theorem dX10_setAlarmOn_28 : decode cX10_setAlarmOn 28 = .ok (.iconst 1, 1) := by decide +kernel
theorem dX10_setAlarmOn_29 : decode cX10_setAlarmOn 29 = .ok (.iadd, 1) := by decide +kernel
theorem dX10_setAlarmOn_30 : decode cX10_setAlarmOn 30 = .ok (.iconst 0, 1) := by decide +kernel
theorem dX10_setAlarmOn_31 : decode cX10_setAlarmOn 31 = .ok (.iastore, 1) := by decide +kernel
theorem dX10_setAlarmOn_32 : decode cX10_setAlarmOn 32 = .ok (.return_, 1) := by decide +kernel
set_option maxRecDepth 20000 in
theorem ggX10_setAlarm_X10_isAlarm : GoodIn wsX10_setAlarm wsX10_isAlarm := goodIn_r _ [6, 7, 8, 9, 5, 10] (by decide +kernel) (by decide +kernel)
set_option maxRecDepth 20000 in
theorem gX10_setAlarm_X10_isAlarm : GoodIn wsX10_setAlarm (va_wsS RX10 152 yX10_isAlarm wsX10_isAlarm) := goodIn_app (goodIn_of _ (by decide +kernel)) ggX10_setAlarm_X10_isAlarm
set_option maxRecDepth 20000 in
theorem ggX10_setAlarm_X10_in : GoodIn wsX10_setAlarm wsX10_in := goodIn_r _ [10] (by decide +kernel) (by decide +kernel)
set_option maxRecDepth 20000 in
theorem gX10_setAlarm_X10_in : GoodIn wsX10_setAlarm (va_wsS RX10 91 yX10_in wsX10_in) := goodIn_app (goodIn_of _ (by decide +kernel)) ggX10_setAlarm_X10_in
set_option maxRecDepth 20000 in
theorem ggX10_setAlarm_X10_refused : GoodIn wsX10_setAlarm wsX10_refused := goodIn_r _ [14, 15, 31, 32, 33, 34, 35, 36, 37, 38, 39, 40, 41, 42, 43, 44, 45] (by decide +kernel) (by decide +kernel)
set_option maxRecDepth 20000 in
theorem gX10_setAlarm_X10_refused : GoodIn wsX10_setAlarm (wsV RX10 98 RX10 yX10_refused wsX10_refused) := goodIn_app (goodIn_of _ (by decide +kernel)) ggX10_setAlarm_X10_refused
set_option maxRecDepth 20000 in
theorem ggX10_setAlarm_X10_note : GoodIn wsX10_setAlarm wsX10_note := goodIn_r _ [19, 20, 21, 22, 2, 23, 24, 25, 5, 26, 31, 32, 33, 34, 35, 36, 37, 38, 39, 40, 41, 42, 43, 44, 45] (by decide +kernel) (by decide +kernel)
set_option maxRecDepth 20000 in
theorem gX10_setAlarm_X10_note : GoodIn wsX10_setAlarm (wsV RX10 157 RX10 yX10_note wsX10_note) := goodIn_app (goodIn_of _ (by decide +kernel)) ggX10_setAlarm_X10_note
set_option maxRecDepth 20000 in
theorem ggX10_setAlarm_X10_setAlarmOn : GoodIn wsX10_setAlarm wsX10_setAlarmOn := goodIn_r _ [29, 30] (by decide +kernel) (by decide +kernel)
set_option maxRecDepth 20000 in
theorem gX10_setAlarm_X10_setAlarmOn : GoodIn wsX10_setAlarm (va_wsS RX10 176 yX10_setAlarmOn wsX10_setAlarmOn) := goodIn_app (goodIn_of _ (by decide +kernel)) ggX10_setAlarm_X10_setAlarmOn
theorem dX10_setAlarm_0 : decode cX10_setAlarm 0 = .ok (.aload_n 0, 1) := by decide +kernel
theorem dX10_setAlarm_1 : decode cX10_setAlarm 1 = .ok (.iload_n 1, 1) := by decide +kernel
theorem dX10_setAlarm_2 : decode cX10_setAlarm 2 = .ok (.invokestatic 152, 3) := by decide +kernel
theorem dX10_setAlarm_5 : decode cX10_setAlarm 5 = .ok (.ifCond .ne 7, 3) := by decide +kernel
theorem dX10_setAlarm_8 : decode cX10_setAlarm 8 = .ok (.iconst 1, 1) := by decide +kernel
theorem dX10_setAlarm_9 : decode cX10_setAlarm 9 = .ok (.goto 20, 3) := by decide +kernel
theorem dX10_setAlarm_12 : decode cX10_setAlarm 12 = .ok (.iload_n 2, 1) := by decide +kernel
theorem dX10_setAlarm_13 : decode cX10_setAlarm 13 = .ok (.i2l, 1) := by decide +kernel
theorem dX10_setAlarm_14 : decode cX10_setAlarm 14 = .ok (.lconst 0, 1) := by decide +kernel
theorem dX10_setAlarm_15 : decode cX10_setAlarm 15 = .ok (.ldc2_w 155, 3) := by decide +kernel
theorem dX10_setAlarm_18 : decode cX10_setAlarm 18 = .ok (.invokestatic 91, 3) := by decide +kernel
theorem dX10_setAlarm_21 : decode cX10_setAlarm 21 = .ok (.ifCond .ne 7, 3) := by decide +kernel
theorem dX10_setAlarm_24 : decode cX10_setAlarm 24 = .ok (.iconst 2, 1) := by decide +kernel
theorem dX10_setAlarm_25 : decode cX10_setAlarm 25 = .ok (.goto 4, 3) := by decide +kernel
theorem dX10_setAlarm_28 : decode cX10_setAlarm 28 = .ok (.iconst 0, 1) := by decide +kernel
theorem dX10_setAlarm_29 : decode cX10_setAlarm 29 = .ok (.invokevirtual 98, 3) := by decide +kernel
theorem dX10_setAlarm_32 : decode cX10_setAlarm 32 = .ok (.ifCond .eq 5, 3) := by decide +kernel
theorem dX10_setAlarm_35 : decode cX10_setAlarm 35 = .ok (.iconst 0, 1) := by decide +kernel
theorem dX10_setAlarm_36 : decode cX10_setAlarm 36 = .ok (.ireturn, 1) := by decide +kernel
theorem dX10_setAlarm_37 : decode cX10_setAlarm 37 = .ok (.aload_n 0, 1) := by decide +kernel
theorem dX10_setAlarm_38 : decode cX10_setAlarm 38 = .ok (.invokevirtual 157, 3) := by decide +kernel
theorem dX10_setAlarm_41 : decode cX10_setAlarm 41 = .ok (.aload_n 0, 1) := by decide +kernel
theorem dX10_setAlarm_42 : decode cX10_setAlarm 42 = .ok (.getfield 16, 3) := by decide +kernel
theorem dX10_setAlarm_45 : decode cX10_setAlarm 45 = .ok (.bipush 27, 2) := by decide +kernel
theorem dX10_setAlarm_47 : decode cX10_setAlarm 47 = .ok (.iconst 3, 1) := by decide +kernel
theorem dX10_setAlarm_48 : decode cX10_setAlarm 48 = .ok (.iload_n 1, 1) := by decide +kernel
theorem dX10_setAlarm_49 : decode cX10_setAlarm 49 = .ok (.imul, 1) := by decide +kernel
theorem dX10_setAlarm_50 : decode cX10_setAlarm 50 = .ok (.iadd, 1) := by decide +kernel
theorem dX10_setAlarm_51 : decode cX10_setAlarm 51 = .ok (.iaload, 1) := by decide +kernel
theorem dX10_setAlarm_52 : decode cX10_setAlarm 52 = .ok (.istore_n 3, 1) := by decide +kernel
theorem dX10_setAlarm_53 : decode cX10_setAlarm 53 = .ok (.aload_n 0, 1) := by decide +kernel
theorem dX10_setAlarm_54 : decode cX10_setAlarm 54 = .ok (.getfield 16, 3) := by decide +kernel
theorem dX10_setAlarm_57 : decode cX10_setAlarm 57 = .ok (.iload_n 1, 1) := by decide +kernel
theorem dX10_setAlarm_58 : decode cX10_setAlarm 58 = .ok (.iload_n 2, 1) := by decide +kernel
theorem dX10_setAlarm_59 : decode cX10_setAlarm 59 = .ok (.invokestatic 176, 3) := by decide +kernel
theorem dX10_setAlarm_62 : decode cX10_setAlarm 62 = .ok (.iload_n 3, 1) := by decide +kernel
theorem dX10_setAlarm_63 : decode cX10_setAlarm 63 = .ok (.ireturn, 1) := by decide +kernel
set_option maxRecDepth 20000 in
theorem ggX10_battery_X10_in : GoodIn wsX10_battery wsX10_in := goodIn_r _ [6] (by decide +kernel) (by decide +kernel)
set_option maxRecDepth 20000 in
theorem gX10_battery_X10_in : GoodIn wsX10_battery (va_wsS RX10 91 yX10_in wsX10_in) := goodIn_app (goodIn_of _ (by decide +kernel)) ggX10_battery_X10_in
set_option maxRecDepth 20000 in
theorem ggX10_battery_X10_refused : GoodIn wsX10_battery wsX10_refused := goodIn_r _ [10, 11, 38, 39, 40, 41, 42, 43, 44, 45, 46, 47, 48, 49, 50, 51, 52] (by decide +kernel) (by decide +kernel)
set_option maxRecDepth 20000 in
theorem gX10_battery_X10_refused : GoodIn wsX10_battery (wsV RX10 98 RX10 yX10_refused wsX10_refused) := goodIn_app (goodIn_of _ (by decide +kernel)) ggX10_battery_X10_refused
set_option maxRecDepth 20000 in
theorem ggX10_battery_X10_note : GoodIn wsX10_battery wsX10_note := goodIn_r _ [15, 16, 17, 18, 2, 19, 20, 21, 5, 22, 38, 39, 40, 41, 42, 43, 44, 45, 46, 47, 48, 49, 50, 51, 52] (by decide +kernel) (by decide +kernel)
set_option maxRecDepth 20000 in
theorem gX10_battery_X10_note : GoodIn wsX10_battery (wsV RX10 157 RX10 yX10_note wsX10_note) := goodIn_app (goodIn_of _ (by decide +kernel)) ggX10_battery_X10_note
set_option maxRecDepth 20000 in
theorem ggX10_battery_X10_chargeOn : GoodIn wsX10_battery wsX10_chargeOn := goodIn_r _ [25, 26, 27, 5, 28, 29, 30, 31, 32, 33, 34, 35, 36, 37] (by decide +kernel) (by decide +kernel)
set_option maxRecDepth 20000 in
theorem gX10_battery_X10_chargeOn : GoodIn wsX10_battery (va_wsS RX10 74 yX10_chargeOn wsX10_chargeOn) := goodIn_app (goodIn_of _ (by decide +kernel)) ggX10_battery_X10_chargeOn
set_option maxRecDepth 20000 in
theorem ggX10_battery_X10_domainOf : GoodIn wsX10_battery wsX10_domainOf := goodIn_r _ [28] (by decide +kernel) (by decide +kernel)
set_option maxRecDepth 20000 in
theorem gX10_battery_X10_domainOf : GoodIn wsX10_battery (va_wsS RX10 58 yX10_domainOf wsX10_domainOf) := goodIn_app (goodIn_of _ (by decide +kernel)) ggX10_battery_X10_domainOf
theorem dX10_battery_0 : decode cX10_battery 0 = .ok (.aload_n 0, 1) := by decide +kernel
theorem dX10_battery_1 : decode cX10_battery 1 = .ok (.iload_n 1, 1) := by decide +kernel
theorem dX10_battery_2 : decode cX10_battery 2 = .ok (.i2l, 1) := by decide +kernel
theorem dX10_battery_3 : decode cX10_battery 3 = .ok (.lconst 0, 1) := by decide +kernel
theorem dX10_battery_4 : decode cX10_battery 4 = .ok (.ldc2_w 180, 3) := by decide +kernel
theorem dX10_battery_7 : decode cX10_battery 7 = .ok (.invokestatic 91, 3) := by decide +kernel
theorem dX10_battery_10 : decode cX10_battery 10 = .ok (.ifCond .eq 7, 3) := by decide +kernel
theorem dX10_battery_13 : decode cX10_battery 13 = .ok (.iconst 0, 1) := by decide +kernel
theorem dX10_battery_14 : decode cX10_battery 14 = .ok (.goto 4, 3) := by decide +kernel
theorem dX10_battery_17 : decode cX10_battery 17 = .ok (.iconst 1, 1) := by decide +kernel
theorem dX10_battery_18 : decode cX10_battery 18 = .ok (.invokevirtual 98, 3) := by decide +kernel
theorem dX10_battery_21 : decode cX10_battery 21 = .ok (.ifCond .eq 5, 3) := by decide +kernel
theorem dX10_battery_24 : decode cX10_battery 24 = .ok (.iconst 0, 1) := by decide +kernel
theorem dX10_battery_25 : decode cX10_battery 25 = .ok (.ireturn, 1) := by decide +kernel
theorem dX10_battery_26 : decode cX10_battery 26 = .ok (.aload_n 0, 1) := by decide +kernel
theorem dX10_battery_27 : decode cX10_battery 27 = .ok (.invokevirtual 157, 3) := by decide +kernel
theorem dX10_battery_30 : decode cX10_battery 30 = .ok (.aload_n 0, 1) := by decide +kernel
theorem dX10_battery_31 : decode cX10_battery 31 = .ok (.getfield 16, 3) := by decide +kernel
theorem dX10_battery_34 : decode cX10_battery 34 = .ok (.iload_n 1, 1) := by decide +kernel
theorem dX10_battery_35 : decode cX10_battery 35 = .ok (.invokestatic 74, 3) := by decide +kernel
theorem dX10_battery_38 : decode cX10_battery 38 = .ok (.aload_n 0, 1) := by decide +kernel
theorem dX10_battery_39 : decode cX10_battery 39 = .ok (.getfield 16, 3) := by decide +kernel
theorem dX10_battery_42 : decode cX10_battery 42 = .ok (.invokestatic 58, 3) := by decide +kernel
theorem dX10_battery_45 : decode cX10_battery 45 = .ok (.ireturn, 1) := by decide +kernel
set_option maxRecDepth 20000 in
theorem ggX10_undo_X10_refused : GoodIn wsX10_undo wsX10_refused := goodIn_r _ [10, 11, 15, 16, 17, 18, 19, 20, 21, 22, 23, 24, 25, 26, 27, 28, 29] (by decide +kernel) (by decide +kernel)
set_option maxRecDepth 20000 in
theorem gX10_undo_X10_refused : GoodIn wsX10_undo (wsV RX10 98 RX10 yX10_refused wsX10_refused) := goodIn_app (goodIn_of _ (by decide +kernel)) ggX10_undo_X10_refused
set_option maxRecDepth 20000 in
theorem ggX10_undo_X10_copyPage : GoodIn wsX10_undo wsX10_copyPage := goodIn_r _ [14] (by decide +kernel) (by decide +kernel)
set_option maxRecDepth 20000 in
theorem gX10_undo_X10_copyPage : GoodIn wsX10_undo (va_wsS RX10 54 yX10_copyPage wsX10_copyPage) := goodIn_app (goodIn_of _ (by decide +kernel)) ggX10_undo_X10_copyPage
theorem dX10_undo_0 : decode cX10_undo 0 = .ok (.aload_n 0, 1) := by decide +kernel
theorem dX10_undo_1 : decode cX10_undo 1 = .ok (.aload_n 0, 1) := by decide +kernel
theorem dX10_undo_2 : decode cX10_undo 2 = .ok (.getfield 124, 3) := by decide +kernel
theorem dX10_undo_5 : decode cX10_undo 5 = .ok (.ifCond .ne 7, 3) := by decide +kernel
theorem dX10_undo_8 : decode cX10_undo 8 = .ok (.iconst 1, 1) := by decide +kernel
theorem dX10_undo_9 : decode cX10_undo 9 = .ok (.goto 4, 3) := by decide +kernel
theorem dX10_undo_12 : decode cX10_undo 12 = .ok (.iconst 0, 1) := by decide +kernel
theorem dX10_undo_13 : decode cX10_undo 13 = .ok (.invokevirtual 98, 3) := by decide +kernel
theorem dX10_undo_16 : decode cX10_undo 16 = .ok (.ifCond .eq 5, 3) := by decide +kernel
theorem dX10_undo_19 : decode cX10_undo 19 = .ok (.iconst 0, 1) := by decide +kernel
theorem dX10_undo_20 : decode cX10_undo 20 = .ok (.ireturn, 1) := by decide +kernel
theorem dX10_undo_21 : decode cX10_undo 21 = .ok (.aload_n 0, 1) := by decide +kernel
theorem dX10_undo_22 : decode cX10_undo 22 = .ok (.dup, 1) := by decide +kernel
theorem dX10_undo_23 : decode cX10_undo 23 = .ok (.getfield 124, 3) := by decide +kernel
theorem dX10_undo_26 : decode cX10_undo 26 = .ok (.iconst 1, 1) := by decide +kernel
theorem dX10_undo_27 : decode cX10_undo 27 = .ok (.isub, 1) := by decide +kernel
theorem dX10_undo_28 : decode cX10_undo 28 = .ok (.putfield 124, 3) := by decide +kernel
theorem dX10_undo_31 : decode cX10_undo 31 = .ok (.aload_n 0, 1) := by decide +kernel
theorem dX10_undo_32 : decode cX10_undo 32 = .ok (.getfield 22, 3) := by decide +kernel
theorem dX10_undo_35 : decode cX10_undo 35 = .ok (.bipush 57, 2) := by decide +kernel
theorem dX10_undo_37 : decode cX10_undo 37 = .ok (.aload_n 0, 1) := by decide +kernel
theorem dX10_undo_38 : decode cX10_undo 38 = .ok (.getfield 124, 3) := by decide +kernel
theorem dX10_undo_41 : decode cX10_undo 41 = .ok (.imul, 1) := by decide +kernel
theorem dX10_undo_42 : decode cX10_undo 42 = .ok (.aload_n 0, 1) := by decide +kernel
theorem dX10_undo_43 : decode cX10_undo 43 = .ok (.getfield 16, 3) := by decide +kernel
theorem dX10_undo_46 : decode cX10_undo 46 = .ok (.iconst 0, 1) := by decide +kernel
theorem dX10_undo_47 : decode cX10_undo 47 = .ok (.invokestatic 54, 3) := by decide +kernel
theorem dX10_undo_50 : decode cX10_undo 50 = .ok (.aload_n 0, 1) := by decide +kernel
theorem dX10_undo_51 : decode cX10_undo 51 = .ok (.getfield 32, 3) := by decide +kernel
theorem dX10_undo_54 : decode cX10_undo 54 = .ok (.iconst 0, 1) := by decide +kernel
theorem dX10_undo_55 : decode cX10_undo 55 = .ok (.aload_n 0, 1) := by decide +kernel
theorem dX10_undo_56 : decode cX10_undo 56 = .ok (.getfield 39, 3) := by decide +kernel
theorem dX10_undo_59 : decode cX10_undo 59 = .ok (.iconst 2, 1) := by decide +kernel
theorem dX10_undo_60 : decode cX10_undo 60 = .ok (.aload_n 0, 1) := by decide +kernel
theorem dX10_undo_61 : decode cX10_undo 61 = .ok (.getfield 124, 3) := by decide +kernel
theorem dX10_undo_64 : decode cX10_undo 64 = .ok (.imul, 1) := by decide +kernel
theorem dX10_undo_65 : decode cX10_undo 65 = .ok (.laload, 1) := by decide +kernel
theorem dX10_undo_66 : decode cX10_undo 66 = .ok (.lastore, 1) := by decide +kernel
theorem dX10_undo_67 : decode cX10_undo 67 = .ok (.aload_n 0, 1) := by decide +kernel
theorem dX10_undo_68 : decode cX10_undo 68 = .ok (.getfield 32, 3) := by decide +kernel
theorem dX10_undo_71 : decode cX10_undo 71 = .ok (.iconst 1, 1) := by decide +kernel
theorem dX10_undo_72 : decode cX10_undo 72 = .ok (.aload_n 0, 1) := by decide +kernel
theorem dX10_undo_73 : decode cX10_undo 73 = .ok (.getfield 39, 3) := by decide +kernel
theorem dX10_undo_76 : decode cX10_undo 76 = .ok (.iconst 2, 1) := by decide +kernel
theorem dX10_undo_77 : decode cX10_undo 77 = .ok (.aload_n 0, 1) := by decide +kernel
theorem dX10_undo_78 : decode cX10_undo 78 = .ok (.getfield 124, 3) := by decide +kernel
theorem dX10_undo_81 : decode cX10_undo 81 = .ok (.imul, 1) := by decide +kernel
theorem dX10_undo_82 : decode cX10_undo 82 = .ok (.iconst 1, 1) := by decide +kernel
theorem dX10_undo_83 : decode cX10_undo 83 = .ok (.iadd, 1) := by decide +kernel
theorem dX10_undo_84 : decode cX10_undo 84 = .ok (.laload, 1) := by decide +kernel
theorem dX10_undo_85 : decode cX10_undo 85 = .ok (.lastore, 1) := by decide +kernel
theorem dX10_undo_86 : decode cX10_undo 86 = .ok (.aload_n 0, 1) := by decide +kernel
theorem dX10_undo_87 : decode cX10_undo 87 = .ok (.getfield 124, 3) := by decide +kernel
theorem dX10_undo_90 : decode cX10_undo 90 = .ok (.ireturn, 1) := by decide +kernel
set_option maxRecDepth 20000 in
theorem ggX10_whyNot_X10_domainOf : GoodIn wsX10_whyNot wsX10_domainOf := goodIn_r _ [6] (by decide +kernel) (by decide +kernel)
set_option maxRecDepth 20000 in
theorem gX10_whyNot_X10_domainOf : GoodIn wsX10_whyNot (va_wsS RX10 58 yX10_domainOf wsX10_domainOf) := goodIn_app (goodIn_of _ (by decide +kernel)) ggX10_whyNot_X10_domainOf
theorem dX10_whyNot_0 : decode cX10_whyNot 0 = .ok (.aload_n 0, 1) := by decide +kernel
theorem dX10_whyNot_1 : decode cX10_whyNot 1 = .ok (.iconst 0, 1) := by decide +kernel
theorem dX10_whyNot_2 : decode cX10_whyNot 2 = .ok (.putfield 49, 3) := by decide +kernel
theorem dX10_whyNot_5 : decode cX10_whyNot 5 = .ok (.aload_n 0, 1) := by decide +kernel
theorem dX10_whyNot_6 : decode cX10_whyNot 6 = .ok (.getfield 16, 3) := by decide +kernel
theorem dX10_whyNot_9 : decode cX10_whyNot 9 = .ok (.invokestatic 58, 3) := by decide +kernel
theorem dX10_whyNot_12 : decode cX10_whyNot 12 = .ok (.ireturn, 1) := by decide +kernel
set_option maxRecDepth 20000 in
theorem ggX10_ahead_X10_in : GoodIn wsX10_ahead wsX10_in := goodIn_r _ [8] (by decide +kernel) (by decide +kernel)
set_option maxRecDepth 20000 in
theorem gX10_ahead_X10_in : GoodIn wsX10_ahead (va_wsS RX10 91 yX10_in wsX10_in) := goodIn_app (goodIn_of _ (by decide +kernel)) ggX10_ahead_X10_in
set_option maxRecDepth 20000 in
theorem ggX10_ahead_X10_refused : GoodIn wsX10_ahead wsX10_refused := goodIn_r _ [12, 13, 55, 56, 57, 58, 59, 60, 61, 62, 63, 64, 65, 66, 67, 68, 69] (by decide +kernel) (by decide +kernel)
set_option maxRecDepth 20000 in
theorem gX10_ahead_X10_refused : GoodIn wsX10_ahead (wsV RX10 98 RX10 yX10_refused wsX10_refused) := goodIn_app (goodIn_of _ (by decide +kernel)) ggX10_ahead_X10_refused
set_option maxRecDepth 20000 in
theorem ggX10_ahead_X10_copyNow : GoodIn wsX10_ahead wsX10_copyNow := goodIn_r _ [17, 18, 3, 4, 19, 20, 21, 7, 22, 55, 56, 57, 58, 59, 60, 61, 62, 63, 64, 65, 66, 67, 68, 69] (by decide +kernel) (by decide +kernel)
set_option maxRecDepth 20000 in
theorem gX10_ahead_X10_copyNow : GoodIn wsX10_ahead (wsV RX10 182 RX10 yX10_copyNow wsX10_copyNow) := goodIn_app (goodIn_of _ (by decide +kernel)) ggX10_ahead_X10_copyNow
set_option maxRecDepth 20000 in
theorem ggX10_ahead_X10_minutesOn : GoodIn wsX10_ahead wsX10_minutesOn := goodIn_r _ [25, 26, 27, 7, 28, 29, 30, 31, 32, 33, 34, 35, 36, 37, 38, 39, 40, 41, 42, 43, 44, 45, 46, 47, 48, 49, 50, 51] (by decide +kernel) (by decide +kernel)
set_option maxRecDepth 20000 in
theorem gX10_ahead_X10_minutesOn : GoodIn wsX10_ahead (va_wsS RX10 160 yX10_minutesOn wsX10_minutesOn) := goodIn_app (goodIn_of _ (by decide +kernel)) ggX10_ahead_X10_minutesOn
set_option maxRecDepth 20000 in
theorem ggX10_ahead_X10_offsetOf : GoodIn wsX10_ahead wsX10_offsetOf := goodIn_r _ [54] (by decide +kernel) (by decide +kernel)
set_option maxRecDepth 20000 in
theorem gX10_ahead_X10_offsetOf : GoodIn wsX10_ahead (va_wsS RX10 132 yX10_offsetOf wsX10_offsetOf) := goodIn_app (goodIn_of _ (by decide +kernel)) ggX10_ahead_X10_offsetOf
set_option maxRecDepth 20000 in
theorem ggX10_ahead_X10_domainOf : GoodIn wsX10_ahead wsX10_domainOf := goodIn_r _ [31] (by decide +kernel) (by decide +kernel)
set_option maxRecDepth 20000 in
theorem gX10_ahead_X10_domainOf : GoodIn wsX10_ahead (va_wsS RX10 58 yX10_domainOf wsX10_domainOf) := goodIn_app (goodIn_of _ (by decide +kernel)) ggX10_ahead_X10_domainOf
theorem dX10_ahead_0 : decode cX10_ahead 0 = .ok (.aload_n 0, 1) := by decide +kernel
theorem dX10_ahead_1 : decode cX10_ahead 1 = .ok (.iload_n 1, 1) := by decide +kernel
theorem dX10_ahead_2 : decode cX10_ahead 2 = .ok (.i2l, 1) := by decide +kernel
theorem dX10_ahead_3 : decode cX10_ahead 3 = .ok (.lconst 0, 1) := by decide +kernel
theorem dX10_ahead_4 : decode cX10_ahead 4 = .ok (.ldc2_w 155, 3) := by decide +kernel
theorem dX10_ahead_7 : decode cX10_ahead 7 = .ok (.invokestatic 91, 3) := by decide +kernel
theorem dX10_ahead_10 : decode cX10_ahead 10 = .ok (.ifCond .eq 19, 3) := by decide +kernel
theorem dX10_ahead_13 : decode cX10_ahead 13 = .ok (.iload_n 2, 1) := by decide +kernel
theorem dX10_ahead_14 : decode cX10_ahead 14 = .ok (.i2l, 1) := by decide +kernel
theorem dX10_ahead_15 : decode cX10_ahead 15 = .ok (.lconst 0, 1) := by decide +kernel
theorem dX10_ahead_16 : decode cX10_ahead 16 = .ok (.ldc2_w 138, 3) := by decide +kernel
theorem dX10_ahead_19 : decode cX10_ahead 19 = .ok (.invokestatic 91, 3) := by decide +kernel
theorem dX10_ahead_22 : decode cX10_ahead 22 = .ok (.ifCond .eq 7, 3) := by decide +kernel
theorem dX10_ahead_25 : decode cX10_ahead 25 = .ok (.iconst 0, 1) := by decide +kernel
theorem dX10_ahead_26 : decode cX10_ahead 26 = .ok (.goto 4, 3) := by decide +kernel
theorem dX10_ahead_29 : decode cX10_ahead 29 = .ok (.iconst 1, 1) := by decide +kernel
theorem dX10_ahead_30 : decode cX10_ahead 30 = .ok (.invokevirtual 98, 3) := by decide +kernel
theorem dX10_ahead_33 : decode cX10_ahead 33 = .ok (.ifCond .eq 5, 3) := by decide +kernel
theorem dX10_ahead_36 : decode cX10_ahead 36 = .ok (.iconst 0, 1) := by decide +kernel
theorem dX10_ahead_37 : decode cX10_ahead 37 = .ok (.ireturn, 1) := by decide +kernel
theorem dX10_ahead_38 : decode cX10_ahead 38 = .ok (.aload_n 0, 1) := by decide +kernel
theorem dX10_ahead_39 : decode cX10_ahead 39 = .ok (.invokevirtual 182, 3) := by decide +kernel
theorem dX10_ahead_42 : decode cX10_ahead 42 = .ok (.aload_n 0, 1) := by decide +kernel
theorem dX10_ahead_43 : decode cX10_ahead 43 = .ok (.getfield 19, 3) := by decide +kernel
theorem dX10_ahead_46 : decode cX10_ahead 46 = .ok (.aload_n 0, 1) := by decide +kernel
theorem dX10_ahead_47 : decode cX10_ahead 47 = .ok (.getfield 36, 3) := by decide +kernel
theorem dX10_ahead_50 : decode cX10_ahead 50 = .ok (.iload_n 1, 1) := by decide +kernel
theorem dX10_ahead_51 : decode cX10_ahead 51 = .ok (.invokestatic 160, 3) := by decide +kernel
theorem dX10_ahead_54 : decode cX10_ahead 54 = .ok (.iload_n 2, 1) := by decide +kernel
theorem dX10_ahead_55 : decode cX10_ahead 55 = .ok (.ifCond .ne 12, 3) := by decide +kernel
theorem dX10_ahead_58 : decode cX10_ahead 58 = .ok (.aload_n 0, 1) := by decide +kernel
theorem dX10_ahead_59 : decode cX10_ahead 59 = .ok (.getfield 19, 3) := by decide +kernel
theorem dX10_ahead_62 : decode cX10_ahead 62 = .ok (.iconst 1, 1) := by decide +kernel
theorem dX10_ahead_63 : decode cX10_ahead 63 = .ok (.iaload, 1) := by decide +kernel
theorem dX10_ahead_64 : decode cX10_ahead 64 = .ok (.goto 69, 3) := by decide +kernel
theorem dX10_ahead_67 : decode cX10_ahead 67 = .ok (.iload_n 2, 1) := by decide +kernel
theorem dX10_ahead_68 : decode cX10_ahead 68 = .ok (.iconst 1, 1) := by decide +kernel
theorem dX10_ahead_69 : decode cX10_ahead 69 = .ok (.if_icmp .ne 12, 3) := by decide +kernel
theorem dX10_ahead_72 : decode cX10_ahead 72 = .ok (.aload_n 0, 1) := by decide +kernel
theorem dX10_ahead_73 : decode cX10_ahead 73 = .ok (.getfield 19, 3) := by decide +kernel
theorem dX10_ahead_76 : decode cX10_ahead 76 = .ok (.iconst 2, 1) := by decide +kernel
theorem dX10_ahead_77 : decode cX10_ahead 77 = .ok (.iaload, 1) := by decide +kernel
theorem dX10_ahead_78 : decode cX10_ahead 78 = .ok (.goto 55, 3) := by decide +kernel
theorem dX10_ahead_81 : decode cX10_ahead 81 = .ok (.iload_n 2, 1) := by decide +kernel
theorem dX10_ahead_82 : decode cX10_ahead 82 = .ok (.iconst 2, 1) := by decide +kernel
theorem dX10_ahead_83 : decode cX10_ahead 83 = .ok (.if_icmp .ne 13, 3) := by decide +kernel
theorem dX10_ahead_86 : decode cX10_ahead 86 = .ok (.aload_n 0, 1) := by decide +kernel
theorem dX10_ahead_87 : decode cX10_ahead 87 = .ok (.getfield 19, 3) := by decide +kernel
theorem dX10_ahead_90 : decode cX10_ahead 90 = .ok (.invokestatic 132, 3) := by decide +kernel
theorem dX10_ahead_93 : decode cX10_ahead 93 = .ok (.goto 40, 3) := by decide +kernel
theorem dX10_ahead_96 : decode cX10_ahead 96 = .ok (.iload_n 2, 1) := by decide +kernel
theorem dX10_ahead_97 : decode cX10_ahead 97 = .ok (.iconst 3, 1) := by decide +kernel
theorem dX10_ahead_98 : decode cX10_ahead 98 = .ok (.if_icmp .ne 13, 3) := by decide +kernel
theorem dX10_ahead_101 : decode cX10_ahead 101 = .ok (.aload_n 0, 1) := by decide +kernel
theorem dX10_ahead_102 : decode cX10_ahead 102 = .ok (.getfield 19, 3) := by decide +kernel
theorem dX10_ahead_105 : decode cX10_ahead 105 = .ok (.bipush 7, 2) := by decide +kernel
theorem dX10_ahead_107 : decode cX10_ahead 107 = .ok (.iaload, 1) := by decide +kernel
theorem dX10_ahead_108 : decode cX10_ahead 108 = .ok (.goto 25, 3) := by decide +kernel
theorem dX10_ahead_111 : decode cX10_ahead 111 = .ok (.iload_n 2, 1) := by decide +kernel
theorem dX10_ahead_112 : decode cX10_ahead 112 = .ok (.iconst 4, 1) := by decide +kernel
theorem dX10_ahead_113 : decode cX10_ahead 113 = .ok (.if_icmp .ne 13, 3) := by decide +kernel
theorem dX10_ahead_116 : decode cX10_ahead 116 = .ok (.aload_n 0, 1) := by decide +kernel
theorem dX10_ahead_117 : decode cX10_ahead 117 = .ok (.getfield 19, 3) := by decide +kernel
theorem dX10_ahead_120 : decode cX10_ahead 120 = .ok (.invokestatic 58, 3) := by decide +kernel
theorem dX10_ahead_123 : decode cX10_ahead 123 = .ok (.goto 10, 3) := by decide +kernel
theorem dX10_ahead_126 : decode cX10_ahead 126 = .ok (.aload_n 0, 1) := by decide +kernel
theorem dX10_ahead_127 : decode cX10_ahead 127 = .ok (.getfield 19, 3) := by decide +kernel
theorem dX10_ahead_130 : decode cX10_ahead 130 = .ok (.bipush 9, 2) := by decide +kernel
theorem dX10_ahead_132 : decode cX10_ahead 132 = .ok (.iaload, 1) := by decide +kernel
theorem dX10_ahead_133 : decode cX10_ahead 133 = .ok (.ireturn, 1) := by decide +kernel
set_option maxRecDepth 20000 in
theorem ggX10_endsAfter_X10_domainOf : GoodIn wsX10_endsAfter wsX10_domainOf := goodIn_r _ [7] (by decide +kernel) (by decide +kernel)
set_option maxRecDepth 20000 in
theorem gX10_endsAfter_X10_domainOf : GoodIn wsX10_endsAfter (va_wsS RX10 58 yX10_domainOf wsX10_domainOf) := goodIn_app (goodIn_of _ (by decide +kernel)) ggX10_endsAfter_X10_domainOf
theorem dX10_endsAfter_0 : decode cX10_endsAfter 0 = .ok (.aload_n 0, 1) := by decide +kernel
theorem dX10_endsAfter_1 : decode cX10_endsAfter 1 = .ok (.iconst 0, 1) := by decide +kernel
theorem dX10_endsAfter_2 : decode cX10_endsAfter 2 = .ok (.putfield 49, 3) := by decide +kernel
theorem dX10_endsAfter_5 : decode cX10_endsAfter 5 = .ok (.aload_n 0, 1) := by decide +kernel
theorem dX10_endsAfter_6 : decode cX10_endsAfter 6 = .ok (.getfield 16, 3) := by decide +kernel
theorem dX10_endsAfter_9 : decode cX10_endsAfter 9 = .ok (.invokestatic 58, 3) := by decide +kernel
theorem dX10_endsAfter_12 : decode cX10_endsAfter 12 = .ok (.istore_n 1, 1) := by decide +kernel
theorem dX10_endsAfter_13 : decode cX10_endsAfter 13 = .ok (.iload_n 1, 1) := by decide +kernel
theorem dX10_endsAfter_14 : decode cX10_endsAfter 14 = .ok (.ifCond .ne 8, 3) := by decide +kernel
theorem dX10_endsAfter_17 : decode cX10_endsAfter 17 = .ok (.ldc 53, 2) := by decide +kernel
theorem dX10_endsAfter_19 : decode cX10_endsAfter 19 = .ok (.goto 19, 3) := by decide +kernel
theorem dX10_endsAfter_22 : decode cX10_endsAfter 22 = .ok (.iload_n 1, 1) := by decide +kernel
theorem dX10_endsAfter_23 : decode cX10_endsAfter 23 = .ok (.iconst 3, 1) := by decide +kernel
theorem dX10_endsAfter_24 : decode cX10_endsAfter 24 = .ok (.if_icmp .ne 7, 3) := by decide +kernel
theorem dX10_endsAfter_27 : decode cX10_endsAfter 27 = .ok (.iconst 0, 1) := by decide +kernel
theorem dX10_endsAfter_28 : decode cX10_endsAfter 28 = .ok (.goto 10, 3) := by decide +kernel
theorem dX10_endsAfter_31 : decode cX10_endsAfter 31 = .ok (.aload_n 0, 1) := by decide +kernel
theorem dX10_endsAfter_32 : decode cX10_endsAfter 32 = .ok (.getfield 16, 3) := by decide +kernel
theorem dX10_endsAfter_35 : decode cX10_endsAfter 35 = .ok (.bipush 7, 2) := by decide +kernel
theorem dX10_endsAfter_37 : decode cX10_endsAfter 37 = .ok (.iaload, 1) := by decide +kernel
theorem dX10_endsAfter_38 : decode cX10_endsAfter 38 = .ok (.ireturn, 1) := by decide +kernel
set_option maxRecDepth 20000 in
theorem ggX10_dueAfter_X10_isAlarm : GoodIn wsX10_dueAfter wsX10_isAlarm := goodIn_r _ [7, 8, 9, 10, 6, 11] (by decide +kernel) (by decide +kernel)
set_option maxRecDepth 20000 in
theorem gX10_dueAfter_X10_isAlarm : GoodIn wsX10_dueAfter (va_wsS RX10 152 yX10_isAlarm wsX10_isAlarm) := goodIn_app (goodIn_of _ (by decide +kernel)) ggX10_dueAfter_X10_isAlarm
set_option maxRecDepth 20000 in
theorem ggX10_dueAfter_X10_refused : GoodIn wsX10_dueAfter wsX10_refused := goodIn_r _ [15, 16, 52, 53, 54, 55, 56, 57, 58, 59, 60, 61, 62, 63, 64, 65, 66] (by decide +kernel) (by decide +kernel)
set_option maxRecDepth 20000 in
theorem gX10_dueAfter_X10_refused : GoodIn wsX10_dueAfter (wsV RX10 98 RX10 yX10_refused wsX10_refused) := goodIn_app (goodIn_of _ (by decide +kernel)) ggX10_dueAfter_X10_refused
set_option maxRecDepth 20000 in
theorem ggX10_dueAfter_X10_copyNow : GoodIn wsX10_dueAfter wsX10_copyNow := goodIn_r _ [20, 21, 1, 2, 22, 23, 24, 6, 25, 52, 53, 54, 55, 56, 57, 58, 59, 60, 61, 62, 63, 64, 65, 66] (by decide +kernel) (by decide +kernel)
set_option maxRecDepth 20000 in
theorem gX10_dueAfter_X10_copyNow : GoodIn wsX10_dueAfter (wsV RX10 182 RX10 yX10_copyNow wsX10_copyNow) := goodIn_app (goodIn_of _ (by decide +kernel)) ggX10_dueAfter_X10_copyNow
set_option maxRecDepth 20000 in
theorem ggX10_dueAfter_X10_minuteOn : GoodIn wsX10_dueAfter wsX10_minuteOn := goodIn_r _ [28, 29, 30, 6, 31, 32, 33, 34, 35, 36, 37, 38, 39, 40, 41, 42, 43, 44, 45, 46, 47, 48, 49, 50, 51] (by decide +kernel) (by decide +kernel)
set_option maxRecDepth 20000 in
theorem gX10_dueAfter_X10_minuteOn : GoodIn wsX10_dueAfter (va_wsS RX10 85 yX10_minuteOn wsX10_minuteOn) := goodIn_app (goodIn_of _ (by decide +kernel)) ggX10_dueAfter_X10_minuteOn
theorem dX10_dueAfter_0 : decode cX10_dueAfter 0 = .ok (.aload_n 0, 1) := by decide +kernel
theorem dX10_dueAfter_1 : decode cX10_dueAfter 1 = .ok (.iload_n 1, 1) := by decide +kernel
theorem dX10_dueAfter_2 : decode cX10_dueAfter 2 = .ok (.invokestatic 152, 3) := by decide +kernel
theorem dX10_dueAfter_5 : decode cX10_dueAfter 5 = .ok (.ifCond .eq 7, 3) := by decide +kernel
theorem dX10_dueAfter_8 : decode cX10_dueAfter 8 = .ok (.iconst 0, 1) := by decide +kernel
theorem dX10_dueAfter_9 : decode cX10_dueAfter 9 = .ok (.goto 4, 3) := by decide +kernel
theorem dX10_dueAfter_12 : decode cX10_dueAfter 12 = .ok (.iconst 1, 1) := by decide +kernel
theorem dX10_dueAfter_13 : decode cX10_dueAfter 13 = .ok (.invokevirtual 98, 3) := by decide +kernel
theorem dX10_dueAfter_16 : decode cX10_dueAfter 16 = .ok (.ifCond .eq 5, 3) := by decide +kernel
theorem dX10_dueAfter_19 : decode cX10_dueAfter 19 = .ok (.iconst 0, 1) := by decide +kernel
theorem dX10_dueAfter_20 : decode cX10_dueAfter 20 = .ok (.ireturn, 1) := by decide +kernel
theorem dX10_dueAfter_21 : decode cX10_dueAfter 21 = .ok (.aload_n 0, 1) := by decide +kernel
theorem dX10_dueAfter_22 : decode cX10_dueAfter 22 = .ok (.invokevirtual 182, 3) := by decide +kernel
theorem dX10_dueAfter_25 : decode cX10_dueAfter 25 = .ok (.iconst 1, 1) := by decide +kernel
theorem dX10_dueAfter_26 : decode cX10_dueAfter 26 = .ok (.istore_n 2, 1) := by decide +kernel
theorem dX10_dueAfter_27 : decode cX10_dueAfter 27 = .ok (.iload_n 2, 1) := by decide +kernel
theorem dX10_dueAfter_28 : decode cX10_dueAfter 28 = .ok (.sipush 3000, 3) := by decide +kernel
theorem dX10_dueAfter_31 : decode cX10_dueAfter 31 = .ok (.if_icmp .gt 30, 3) := by decide +kernel
theorem dX10_dueAfter_34 : decode cX10_dueAfter 34 = .ok (.aload_n 0, 1) := by decide +kernel
theorem dX10_dueAfter_35 : decode cX10_dueAfter 35 = .ok (.getfield 19, 3) := by decide +kernel
theorem dX10_dueAfter_38 : decode cX10_dueAfter 38 = .ok (.aload_n 0, 1) := by decide +kernel
theorem dX10_dueAfter_39 : decode cX10_dueAfter 39 = .ok (.getfield 36, 3) := by decide +kernel
theorem dX10_dueAfter_42 : decode cX10_dueAfter 42 = .ok (.invokestatic 85, 3) := by decide +kernel
theorem dX10_dueAfter_45 : decode cX10_dueAfter 45 = .ok (.iload_n 1, 1) := by decide +kernel
theorem dX10_dueAfter_46 : decode cX10_dueAfter 46 = .ok (.ishr, 1) := by decide +kernel
theorem dX10_dueAfter_47 : decode cX10_dueAfter 47 = .ok (.iconst 1, 1) := by decide +kernel
theorem dX10_dueAfter_48 : decode cX10_dueAfter 48 = .ok (.iand, 1) := by decide +kernel
theorem dX10_dueAfter_49 : decode cX10_dueAfter 49 = .ok (.iconst 1, 1) := by decide +kernel
theorem dX10_dueAfter_50 : decode cX10_dueAfter 50 = .ok (.if_icmp .ne 5, 3) := by decide +kernel
theorem dX10_dueAfter_53 : decode cX10_dueAfter 53 = .ok (.iload_n 2, 1) := by decide +kernel
theorem dX10_dueAfter_54 : decode cX10_dueAfter 54 = .ok (.ireturn, 1) := by decide +kernel
theorem dX10_dueAfter_55 : decode cX10_dueAfter 55 = .ok (.iinc 2 1, 3) := by decide +kernel
theorem dX10_dueAfter_58 : decode cX10_dueAfter 58 = .ok (.goto (-31), 3) := by decide +kernel
theorem dX10_dueAfter_61 : decode cX10_dueAfter 61 = .ok (.ldc 53, 2) := by decide +kernel
theorem dX10_dueAfter_63 : decode cX10_dueAfter 63 = .ok (.ireturn, 1) := by decide +kernel
theorem dX10_size_0 : decode cX10_size 0 = .ok (.iload_n 0, 1) := by decide +kernel
theorem dX10_size_1 : decode cX10_size 1 = .ok (.ifCond .ge 8, 3) := by decide +kernel
theorem dX10_size_4 : decode cX10_size 4 = .ok (.iload_n 0, 1) := by decide +kernel
theorem dX10_size_5 : decode cX10_size 5 = .ok (.ineg, 1) := by decide +kernel
theorem dX10_size_6 : decode cX10_size 6 = .ok (.goto 4, 3) := by decide +kernel
theorem dX10_size_9 : decode cX10_size 9 = .ok (.iload_n 0, 1) := by decide +kernel
theorem dX10_size_10 : decode cX10_size 10 = .ok (.ireturn, 1) := by decide +kernel
set_option maxRecDepth 20000 in
theorem ggX10_bestCorrection_X10_in : GoodIn wsX10_bestCorrection wsX10_in := goodIn_r _ [8] (by decide +kernel) (by decide +kernel)
set_option maxRecDepth 20000 in
theorem gX10_bestCorrection_X10_in : GoodIn wsX10_bestCorrection (va_wsS RX10 91 yX10_in wsX10_in) := goodIn_app (goodIn_of _ (by decide +kernel)) ggX10_bestCorrection_X10_in
set_option maxRecDepth 20000 in
theorem ggX10_bestCorrection_X10_refused : GoodIn wsX10_bestCorrection wsX10_refused := goodIn_r _ [12, 13, 58, 59, 60, 61, 62, 63, 64, 65, 66, 67, 68, 69, 70, 71, 72] (by decide +kernel) (by decide +kernel)
set_option maxRecDepth 20000 in
theorem gX10_bestCorrection_X10_refused : GoodIn wsX10_bestCorrection (wsV RX10 98 RX10 yX10_refused wsX10_refused) := goodIn_app (goodIn_of _ (by decide +kernel)) ggX10_bestCorrection_X10_refused
set_option maxRecDepth 20000 in
theorem ggX10_bestCorrection_X10_copyNow : GoodIn wsX10_bestCorrection wsX10_copyNow := goodIn_r _ [17, 18, 3, 4, 19, 20, 21, 7, 22, 58, 59, 60, 61, 62, 63, 64, 65, 66, 67, 68, 69, 70, 71, 72] (by decide +kernel) (by decide +kernel)
set_option maxRecDepth 20000 in
theorem gX10_bestCorrection_X10_copyNow : GoodIn wsX10_bestCorrection (wsV RX10 182 RX10 yX10_copyNow wsX10_copyNow) := goodIn_app (goodIn_of _ (by decide +kernel)) ggX10_bestCorrection_X10_copyNow
set_option maxRecDepth 20000 in
theorem ggX10_bestCorrection_X10_minutesOn : GoodIn wsX10_bestCorrection wsX10_minutesOn := goodIn_r _ [25, 26, 27, 7, 28, 29, 30, 31, 32, 33, 34, 35, 36, 37, 38, 39, 40, 41, 42, 43, 44, 45, 46, 47, 48, 49, 50, 51] (by decide +kernel) (by decide +kernel)
set_option maxRecDepth 20000 in
theorem gX10_bestCorrection_X10_minutesOn : GoodIn wsX10_bestCorrection (va_wsS RX10 160 yX10_minutesOn wsX10_minutesOn) := goodIn_app (goodIn_of _ (by decide +kernel)) ggX10_bestCorrection_X10_minutesOn
set_option maxRecDepth 20000 in
theorem ggX10_bestCorrection_X10_offsetOf : GoodIn wsX10_bestCorrection wsX10_offsetOf := goodIn_r _ [54] (by decide +kernel) (by decide +kernel)
set_option maxRecDepth 20000 in
theorem gX10_bestCorrection_X10_offsetOf : GoodIn wsX10_bestCorrection (va_wsS RX10 132 yX10_offsetOf wsX10_offsetOf) := goodIn_app (goodIn_of _ (by decide +kernel)) ggX10_bestCorrection_X10_offsetOf
set_option maxRecDepth 20000 in
theorem ggX10_bestCorrection_X10_size : GoodIn wsX10_bestCorrection wsX10_size := goodIn_r _ [57] (by decide +kernel) (by decide +kernel)
set_option maxRecDepth 20000 in
theorem gX10_bestCorrection_X10_size : GoodIn wsX10_bestCorrection (va_wsS RX10 187 yX10_size wsX10_size) := goodIn_app (goodIn_of _ (by decide +kernel)) ggX10_bestCorrection_X10_size
theorem dX10_bestCorrection_0 : decode cX10_bestCorrection 0 = .ok (.aload_n 0, 1) := by decide +kernel
theorem dX10_bestCorrection_1 : decode cX10_bestCorrection 1 = .ok (.iload_n 1, 1) := by decide +kernel
theorem dX10_bestCorrection_2 : decode cX10_bestCorrection 2 = .ok (.i2l, 1) := by decide +kernel
theorem dX10_bestCorrection_3 : decode cX10_bestCorrection 3 = .ok (.lconst 1, 1) := by decide +kernel
theorem dX10_bestCorrection_4 : decode cX10_bestCorrection 4 = .ok (.ldc2_w 185, 3) := by decide +kernel
theorem dX10_bestCorrection_7 : decode cX10_bestCorrection 7 = .ok (.invokestatic 91, 3) := by decide +kernel
theorem dX10_bestCorrection_10 : decode cX10_bestCorrection 10 = .ok (.ifCond .eq 7, 3) := by decide +kernel
theorem dX10_bestCorrection_13 : decode cX10_bestCorrection 13 = .ok (.iconst 0, 1) := by decide +kernel
theorem dX10_bestCorrection_14 : decode cX10_bestCorrection 14 = .ok (.goto 4, 3) := by decide +kernel
theorem dX10_bestCorrection_17 : decode cX10_bestCorrection 17 = .ok (.iconst 1, 1) := by decide +kernel
theorem dX10_bestCorrection_18 : decode cX10_bestCorrection 18 = .ok (.invokevirtual 98, 3) := by decide +kernel
theorem dX10_bestCorrection_21 : decode cX10_bestCorrection 21 = .ok (.ifCond .eq 5, 3) := by decide +kernel
theorem dX10_bestCorrection_24 : decode cX10_bestCorrection 24 = .ok (.iconst 0, 1) := by decide +kernel
theorem dX10_bestCorrection_25 : decode cX10_bestCorrection 25 = .ok (.ireturn, 1) := by decide +kernel
theorem dX10_bestCorrection_26 : decode cX10_bestCorrection 26 = .ok (.ldc 53, 2) := by decide +kernel
theorem dX10_bestCorrection_28 : decode cX10_bestCorrection 28 = .ok (.istore_n 2, 1) := by decide +kernel
theorem dX10_bestCorrection_29 : decode cX10_bestCorrection 29 = .ok (.iconst 0, 1) := by decide +kernel
theorem dX10_bestCorrection_30 : decode cX10_bestCorrection 30 = .ok (.istore_n 3, 1) := by decide +kernel
theorem dX10_bestCorrection_31 : decode cX10_bestCorrection 31 = .ok (.iconst 0, 1) := by decide +kernel
theorem dX10_bestCorrection_32 : decode cX10_bestCorrection 32 = .ok (.istore 4, 2) := by decide +kernel
theorem dX10_bestCorrection_34 : decode cX10_bestCorrection 34 = .ok (.iload 4, 2) := by decide +kernel
theorem dX10_bestCorrection_36 : decode cX10_bestCorrection 36 = .ok (.sipush 1000, 3) := by decide +kernel
theorem dX10_bestCorrection_39 : decode cX10_bestCorrection 39 = .ok (.if_icmp .gt 112, 3) := by decide +kernel
theorem dX10_bestCorrection_42 : decode cX10_bestCorrection 42 = .ok (.iload 4, 2) := by decide +kernel
theorem dX10_bestCorrection_44 : decode cX10_bestCorrection 44 = .ok (.iconst 2, 1) := by decide +kernel
theorem dX10_bestCorrection_45 : decode cX10_bestCorrection 45 = .ok (.irem, 1) := by decide +kernel
theorem dX10_bestCorrection_46 : decode cX10_bestCorrection 46 = .ok (.iconst 1, 1) := by decide +kernel
theorem dX10_bestCorrection_47 : decode cX10_bestCorrection 47 = .ok (.if_icmp .ne 13, 3) := by decide +kernel
theorem dX10_bestCorrection_50 : decode cX10_bestCorrection 50 = .ok (.iload 4, 2) := by decide +kernel
theorem dX10_bestCorrection_52 : decode cX10_bestCorrection 52 = .ok (.iconst 1, 1) := by decide +kernel
theorem dX10_bestCorrection_53 : decode cX10_bestCorrection 53 = .ok (.iadd, 1) := by decide +kernel
theorem dX10_bestCorrection_54 : decode cX10_bestCorrection 54 = .ok (.ineg, 1) := by decide +kernel
theorem dX10_bestCorrection_55 : decode cX10_bestCorrection 55 = .ok (.iconst 2, 1) := by decide +kernel
theorem dX10_bestCorrection_56 : decode cX10_bestCorrection 56 = .ok (.idiv, 1) := by decide +kernel
theorem dX10_bestCorrection_57 : decode cX10_bestCorrection 57 = .ok (.goto 7, 3) := by decide +kernel
theorem dX10_bestCorrection_60 : decode cX10_bestCorrection 60 = .ok (.iload 4, 2) := by decide +kernel
theorem dX10_bestCorrection_62 : decode cX10_bestCorrection 62 = .ok (.iconst 2, 1) := by decide +kernel
theorem dX10_bestCorrection_63 : decode cX10_bestCorrection 63 = .ok (.idiv, 1) := by decide +kernel
theorem dX10_bestCorrection_64 : decode cX10_bestCorrection 64 = .ok (.istore 5, 2) := by decide +kernel
theorem dX10_bestCorrection_66 : decode cX10_bestCorrection 66 = .ok (.aload_n 0, 1) := by decide +kernel
theorem dX10_bestCorrection_67 : decode cX10_bestCorrection 67 = .ok (.invokevirtual 182, 3) := by decide +kernel
theorem dX10_bestCorrection_70 : decode cX10_bestCorrection 70 = .ok (.aload_n 0, 1) := by decide +kernel
theorem dX10_bestCorrection_71 : decode cX10_bestCorrection 71 = .ok (.getfield 19, 3) := by decide +kernel
theorem dX10_bestCorrection_74 : decode cX10_bestCorrection 74 = .ok (.iconst 4, 1) := by decide +kernel
theorem dX10_bestCorrection_75 : decode cX10_bestCorrection 75 = .ok (.iload 5, 2) := by decide +kernel
theorem dX10_bestCorrection_77 : decode cX10_bestCorrection 77 = .ok (.iastore, 1) := by decide +kernel
theorem dX10_bestCorrection_78 : decode cX10_bestCorrection 78 = .ok (.aload_n 0, 1) := by decide +kernel
theorem dX10_bestCorrection_79 : decode cX10_bestCorrection 79 = .ok (.getfield 19, 3) := by decide +kernel
theorem dX10_bestCorrection_82 : decode cX10_bestCorrection 82 = .ok (.aload_n 0, 1) := by decide +kernel
theorem dX10_bestCorrection_83 : decode cX10_bestCorrection 83 = .ok (.getfield 36, 3) := by decide +kernel
theorem dX10_bestCorrection_86 : decode cX10_bestCorrection 86 = .ok (.iload_n 1, 1) := by decide +kernel
theorem dX10_bestCorrection_87 : decode cX10_bestCorrection 87 = .ok (.invokestatic 160, 3) := by decide +kernel
theorem dX10_bestCorrection_90 : decode cX10_bestCorrection 90 = .ok (.aload_n 0, 1) := by decide +kernel
theorem dX10_bestCorrection_91 : decode cX10_bestCorrection 91 = .ok (.getfield 19, 3) := by decide +kernel
theorem dX10_bestCorrection_94 : decode cX10_bestCorrection 94 = .ok (.invokestatic 132, 3) := by decide +kernel
theorem dX10_bestCorrection_97 : decode cX10_bestCorrection 97 = .ok (.invokestatic 187, 3) := by decide +kernel
theorem dX10_bestCorrection_100 : decode cX10_bestCorrection 100 = .ok (.istore 6, 2) := by decide +kernel
theorem dX10_bestCorrection_102 : decode cX10_bestCorrection 102 = .ok (.iload_n 2, 1) := by decide +kernel
theorem dX10_bestCorrection_103 : decode cX10_bestCorrection 103 = .ok (.ldc 53, 2) := by decide +kernel
theorem dX10_bestCorrection_105 : decode cX10_bestCorrection 105 = .ok (.if_icmp .eq 9, 3) := by decide +kernel
theorem dX10_bestCorrection_108 : decode cX10_bestCorrection 108 = .ok (.iload 6, 2) := by decide +kernel
theorem dX10_bestCorrection_110 : decode cX10_bestCorrection 110 = .ok (.iload_n 3, 1) := by decide +kernel
theorem dX10_bestCorrection_111 : decode cX10_bestCorrection 111 = .ok (.if_icmp .ge 7, 3) := by decide +kernel
theorem dX10_bestCorrection_114 : decode cX10_bestCorrection 114 = .ok (.iconst 1, 1) := by decide +kernel
theorem dX10_bestCorrection_115 : decode cX10_bestCorrection 115 = .ok (.goto 4, 3) := by decide +kernel
theorem dX10_bestCorrection_118 : decode cX10_bestCorrection 118 = .ok (.iconst 0, 1) := by decide +kernel
theorem dX10_bestCorrection_119 : decode cX10_bestCorrection 119 = .ok (.istore 7, 2) := by decide +kernel
theorem dX10_bestCorrection_121 : decode cX10_bestCorrection 121 = .ok (.iload 7, 2) := by decide +kernel
theorem dX10_bestCorrection_123 : decode cX10_bestCorrection 123 = .ok (.ifCond .eq 8, 3) := by decide +kernel
theorem dX10_bestCorrection_126 : decode cX10_bestCorrection 126 = .ok (.iload 5, 2) := by decide +kernel
theorem dX10_bestCorrection_128 : decode cX10_bestCorrection 128 = .ok (.goto 4, 3) := by decide +kernel
theorem dX10_bestCorrection_131 : decode cX10_bestCorrection 131 = .ok (.iload_n 2, 1) := by decide +kernel
theorem dX10_bestCorrection_132 : decode cX10_bestCorrection 132 = .ok (.istore_n 2, 1) := by decide +kernel
theorem dX10_bestCorrection_133 : decode cX10_bestCorrection 133 = .ok (.iload 7, 2) := by decide +kernel
theorem dX10_bestCorrection_135 : decode cX10_bestCorrection 135 = .ok (.ifCond .eq 8, 3) := by decide +kernel
theorem dX10_bestCorrection_138 : decode cX10_bestCorrection 138 = .ok (.iload 6, 2) := by decide +kernel
theorem dX10_bestCorrection_140 : decode cX10_bestCorrection 140 = .ok (.goto 4, 3) := by decide +kernel
theorem dX10_bestCorrection_143 : decode cX10_bestCorrection 143 = .ok (.iload_n 3, 1) := by decide +kernel
theorem dX10_bestCorrection_144 : decode cX10_bestCorrection 144 = .ok (.istore_n 3, 1) := by decide +kernel
theorem dX10_bestCorrection_145 : decode cX10_bestCorrection 145 = .ok (.iinc 4 1, 3) := by decide +kernel
theorem dX10_bestCorrection_148 : decode cX10_bestCorrection 148 = .ok (.goto (-114), 3) := by decide +kernel
theorem dX10_bestCorrection_151 : decode cX10_bestCorrection 151 = .ok (.iload_n 2, 1) := by decide +kernel
theorem dX10_bestCorrection_152 : decode cX10_bestCorrection 152 = .ok (.ireturn, 1) := by decide +kernel
set_option maxRecDepth 20000 in
theorem ggX10_does_X10_domainOf : GoodIn wsX10_does wsX10_domainOf := goodIn_r _ [7] (by decide +kernel) (by decide +kernel)
set_option maxRecDepth 20000 in
theorem gX10_does_X10_domainOf : GoodIn wsX10_does (va_wsS RX10 58 yX10_domainOf wsX10_domainOf) := goodIn_app (goodIn_of _ (by decide +kernel)) ggX10_does_X10_domainOf
set_option maxRecDepth 20000 in
theorem ggX10_does_X10_in : GoodIn wsX10_does wsX10_in := goodIn_r _ [10] (by decide +kernel) (by decide +kernel)
set_option maxRecDepth 20000 in
theorem gX10_does_X10_in : GoodIn wsX10_does (va_wsS RX10 91 yX10_in wsX10_in) := goodIn_app (goodIn_of _ (by decide +kernel)) ggX10_does_X10_in
set_option maxRecDepth 20000 in
theorem ggX10_does_X10_minutesOn : GoodIn wsX10_does wsX10_minutesOn := goodIn_r _ [13, 14, 15, 6, 16, 4, 5, 7, 17, 18, 19, 20, 21, 22, 23, 24, 25, 26, 27, 28, 29, 30, 31, 32, 33, 34, 35, 36] (by decide +kernel) (by decide +kernel)
set_option maxRecDepth 20000 in
theorem gX10_does_X10_minutesOn : GoodIn wsX10_does (va_wsS RX10 160 yX10_minutesOn wsX10_minutesOn) := goodIn_app (goodIn_of _ (by decide +kernel)) ggX10_does_X10_minutesOn
set_option maxRecDepth 20000 in
theorem ggX10_does_X10_levelOn : GoodIn wsX10_does wsX10_levelOn := goodIn_r _ [39, 4, 5, 6, 7, 20, 21, 22, 23, 24, 25, 26, 27, 28] (by decide +kernel) (by decide +kernel)
set_option maxRecDepth 20000 in
theorem gX10_does_X10_levelOn : GoodIn wsX10_does (va_wsS RX10 164 yX10_levelOn wsX10_levelOn) := goodIn_app (goodIn_of _ (by decide +kernel)) ggX10_does_X10_levelOn
set_option maxRecDepth 20000 in
theorem ggX10_does_X10_isRegister : GoodIn wsX10_does wsX10_isRegister := goodIn_r _ [42, 43, 8, 9, 6, 10] (by decide +kernel) (by decide +kernel)
set_option maxRecDepth 20000 in
theorem gX10_does_X10_isRegister : GoodIn wsX10_does (va_wsS RX10 146 yX10_isRegister wsX10_isRegister) := goodIn_app (goodIn_of _ (by decide +kernel)) ggX10_does_X10_isRegister
set_option maxRecDepth 20000 in
theorem ggX10_does_X10_isPin : GoodIn wsX10_does wsX10_isPin := goodIn_r _ [46, 47, 8, 9, 6, 10] (by decide +kernel) (by decide +kernel)
set_option maxRecDepth 20000 in
theorem gX10_does_X10_isPin : GoodIn wsX10_does (va_wsS RX10 149 yX10_isPin wsX10_isPin) := goodIn_app (goodIn_of _ (by decide +kernel)) ggX10_does_X10_isPin
set_option maxRecDepth 20000 in
theorem ggX10_does_X10_tamperOn : GoodIn wsX10_does wsX10_tamperOn := goodIn_r _ [50, 4, 5, 6, 7] (by decide +kernel) (by decide +kernel)
set_option maxRecDepth 20000 in
theorem gX10_does_X10_tamperOn : GoodIn wsX10_does (va_wsS RX10 173 yX10_tamperOn wsX10_tamperOn) := goodIn_app (goodIn_of _ (by decide +kernel)) ggX10_does_X10_tamperOn
set_option maxRecDepth 20000 in
theorem ggX10_does_X10_isAlarm : GoodIn wsX10_does wsX10_isAlarm := goodIn_r _ [53, 54, 8, 9, 6, 10] (by decide +kernel) (by decide +kernel)
set_option maxRecDepth 20000 in
theorem gX10_does_X10_isAlarm : GoodIn wsX10_does (va_wsS RX10 152 yX10_isAlarm wsX10_isAlarm) := goodIn_app (goodIn_of _ (by decide +kernel)) ggX10_does_X10_isAlarm
set_option maxRecDepth 20000 in
theorem ggX10_does_X10_setAlarmOn : GoodIn wsX10_does wsX10_setAlarmOn := goodIn_r _ [57, 58] (by decide +kernel) (by decide +kernel)
set_option maxRecDepth 20000 in
theorem gX10_does_X10_setAlarmOn : GoodIn wsX10_does (va_wsS RX10 176 yX10_setAlarmOn wsX10_setAlarmOn) := goodIn_app (goodIn_of _ (by decide +kernel)) ggX10_does_X10_setAlarmOn
set_option maxRecDepth 20000 in
theorem ggX10_does_X10_offsetOf : GoodIn wsX10_does wsX10_offsetOf := goodIn_r _ [61] (by decide +kernel) (by decide +kernel)
set_option maxRecDepth 20000 in
theorem gX10_does_X10_offsetOf : GoodIn wsX10_does (va_wsS RX10 132 yX10_offsetOf wsX10_offsetOf) := goodIn_app (goodIn_of _ (by decide +kernel)) ggX10_does_X10_offsetOf
theorem dX10_does_0 : decode cX10_does 0 = .ok (.iload_n 2, 1) := by decide +kernel
theorem dX10_does_1 : decode cX10_does 1 = .ok (.sipush 1000, 3) := by decide +kernel
theorem dX10_does_4 : decode cX10_does 4 = .ok (.idiv, 1) := by decide +kernel
theorem dX10_does_5 : decode cX10_does 5 = .ok (.istore_n 3, 1) := by decide +kernel
theorem dX10_does_6 : decode cX10_does 6 = .ok (.iload_n 2, 1) := by decide +kernel
theorem dX10_does_7 : decode cX10_does 7 = .ok (.sipush 1000, 3) := by decide +kernel
theorem dX10_does_10 : decode cX10_does 10 = .ok (.irem, 1) := by decide +kernel
theorem dX10_does_11 : decode cX10_does 11 = .ok (.istore 4, 2) := by decide +kernel
theorem dX10_does_13 : decode cX10_does 13 = .ok (.aload_n 0, 1) := by decide +kernel
theorem dX10_does_14 : decode cX10_does 14 = .ok (.getfield 19, 3) := by decide +kernel
theorem dX10_does_17 : decode cX10_does 17 = .ok (.invokestatic 58, 3) := by decide +kernel
theorem dX10_does_20 : decode cX10_does 20 = .ok (.ifCond .ne 7, 3) := by decide +kernel
theorem dX10_does_23 : decode cX10_does 23 = .ok (.iconst 1, 1) := by decide +kernel
theorem dX10_does_24 : decode cX10_does 24 = .ok (.goto 4, 3) := by decide +kernel
theorem dX10_does_27 : decode cX10_does 27 = .ok (.iconst 0, 1) := by decide +kernel
theorem dX10_does_28 : decode cX10_does 28 = .ok (.istore 5, 2) := by decide +kernel
theorem dX10_does_30 : decode cX10_does 30 = .ok (.iload_n 1, 1) := by decide +kernel
theorem dX10_does_31 : decode cX10_does 31 = .ok (.tableswitch 293 1 9 #[49, 77, 95, 135, 170, 189, 216, 233, 260], 49) := by decide +kernel
theorem dX10_does_80 : decode cX10_does 80 = .ok (.iload_n 2, 1) := by decide +kernel
theorem dX10_does_81 : decode cX10_does 81 = .ok (.i2l, 1) := by decide +kernel
theorem dX10_does_82 : decode cX10_does 82 = .ok (.lconst 1, 1) := by decide +kernel
theorem dX10_does_83 : decode cX10_does 83 = .ok (.ldc2_w 155, 3) := by decide +kernel
theorem dX10_does_86 : decode cX10_does 86 = .ok (.invokestatic 91, 3) := by decide +kernel
theorem dX10_does_89 : decode cX10_does 89 = .ok (.ifCond .ne 5, 3) := by decide +kernel
theorem dX10_does_92 : decode cX10_does 92 = .ok (.iconst 0, 1) := by decide +kernel
theorem dX10_does_93 : decode cX10_does 93 = .ok (.ireturn, 1) := by decide +kernel
theorem dX10_does_94 : decode cX10_does 94 = .ok (.aload_n 0, 1) := by decide +kernel
theorem dX10_does_95 : decode cX10_does 95 = .ok (.getfield 19, 3) := by decide +kernel
theorem dX10_does_98 : decode cX10_does 98 = .ok (.aload_n 0, 1) := by decide +kernel
theorem dX10_does_99 : decode cX10_does 99 = .ok (.getfield 36, 3) := by decide +kernel
theorem dX10_does_102 : decode cX10_does 102 = .ok (.iload_n 2, 1) := by decide +kernel
theorem dX10_does_103 : decode cX10_does 103 = .ok (.invokestatic 160, 3) := by decide +kernel
theorem dX10_does_106 : decode cX10_does 106 = .ok (.iconst 1, 1) := by decide +kernel
theorem dX10_does_107 : decode cX10_does 107 = .ok (.ireturn, 1) := by decide +kernel
theorem dX10_does_108 : decode cX10_does 108 = .ok (.iload_n 2, 1) := by decide +kernel
theorem dX10_does_109 : decode cX10_does 109 = .ok (.bipush 9, 2) := by decide +kernel
theorem dX10_does_111 : decode cX10_does 111 = .ok (.if_icmp .le 5, 3) := by decide +kernel
theorem dX10_does_114 : decode cX10_does 114 = .ok (.iconst 0, 1) := by decide +kernel
theorem dX10_does_115 : decode cX10_does 115 = .ok (.ireturn, 1) := by decide +kernel
theorem dX10_does_116 : decode cX10_does 116 = .ok (.aload_n 0, 1) := by decide +kernel
theorem dX10_does_117 : decode cX10_does 117 = .ok (.getfield 19, 3) := by decide +kernel
theorem dX10_does_120 : decode cX10_does 120 = .ok (.iload_n 2, 1) := by decide +kernel
theorem dX10_does_121 : decode cX10_does 121 = .ok (.invokestatic 164, 3) := by decide +kernel
theorem dX10_does_124 : decode cX10_does 124 = .ok (.iconst 1, 1) := by decide +kernel
theorem dX10_does_125 : decode cX10_does 125 = .ok (.ireturn, 1) := by decide +kernel
theorem dX10_does_126 : decode cX10_does 126 = .ok (.iload_n 3, 1) := by decide +kernel
theorem dX10_does_127 : decode cX10_does 127 = .ok (.iconst 1, 1) := by decide +kernel
theorem dX10_does_128 : decode cX10_does 128 = .ok (.if_icmp .gt 16, 3) := by decide +kernel
theorem dX10_does_131 : decode cX10_does 131 = .ok (.iload 4, 2) := by decide +kernel
theorem dX10_does_133 : decode cX10_does 133 = .ok (.sipush 500, 3) := by decide +kernel
theorem dX10_does_136 : decode cX10_does 136 = .ok (.if_icmp .gt 8, 3) := by decide +kernel
theorem dX10_does_139 : decode cX10_does 139 = .ok (.iload 5, 2) := by decide +kernel
theorem dX10_does_141 : decode cX10_does 141 = .ok (.ifCond .ne 5, 3) := by decide +kernel
theorem dX10_does_144 : decode cX10_does 144 = .ok (.iconst 0, 1) := by decide +kernel
theorem dX10_does_145 : decode cX10_does 145 = .ok (.ireturn, 1) := by decide +kernel
theorem dX10_does_146 : decode cX10_does 146 = .ok (.aload_n 0, 1) := by decide +kernel
theorem dX10_does_147 : decode cX10_does 147 = .ok (.getfield 19, 3) := by decide +kernel
theorem dX10_does_150 : decode cX10_does 150 = .ok (.iconst 4, 1) := by decide +kernel
theorem dX10_does_151 : decode cX10_does 151 = .ok (.iload_n 3, 1) := by decide +kernel
theorem dX10_does_152 : decode cX10_does 152 = .ok (.ifCond .ne 8, 3) := by decide +kernel
theorem dX10_does_155 : decode cX10_does 155 = .ok (.iload 4, 2) := by decide +kernel
theorem dX10_does_157 : decode cX10_does 157 = .ok (.goto 6, 3) := by decide +kernel
theorem dX10_does_160 : decode cX10_does 160 = .ok (.iload 4, 2) := by decide +kernel
theorem dX10_does_162 : decode cX10_does 162 = .ok (.ineg, 1) := by decide +kernel
theorem dX10_does_163 : decode cX10_does 163 = .ok (.iastore, 1) := by decide +kernel
theorem dX10_does_164 : decode cX10_does 164 = .ok (.iconst 1, 1) := by decide +kernel
theorem dX10_does_165 : decode cX10_does 165 = .ok (.ireturn, 1) := by decide +kernel
theorem dX10_does_166 : decode cX10_does 166 = .ok (.iload_n 3, 1) := by decide +kernel
theorem dX10_does_167 : decode cX10_does 167 = .ok (.invokestatic 146, 3) := by decide +kernel
theorem dX10_does_170 : decode cX10_does 170 = .ok (.ifCond .eq 16, 3) := by decide +kernel
theorem dX10_does_173 : decode cX10_does 173 = .ok (.iload 4, 2) := by decide +kernel
theorem dX10_does_175 : decode cX10_does 175 = .ok (.sipush 255, 3) := by decide +kernel
theorem dX10_does_178 : decode cX10_does 178 = .ok (.if_icmp .gt 8, 3) := by decide +kernel
theorem dX10_does_181 : decode cX10_does 181 = .ok (.iload 5, 2) := by decide +kernel
theorem dX10_does_183 : decode cX10_does 183 = .ok (.ifCond .ne 5, 3) := by decide +kernel
theorem dX10_does_186 : decode cX10_does 186 = .ok (.iconst 0, 1) := by decide +kernel
theorem dX10_does_187 : decode cX10_does 187 = .ok (.ireturn, 1) := by decide +kernel
theorem dX10_does_188 : decode cX10_does 188 = .ok (.aload_n 0, 1) := by decide +kernel
theorem dX10_does_189 : decode cX10_does 189 = .ok (.getfield 19, 3) := by decide +kernel
theorem dX10_does_192 : decode cX10_does 192 = .ok (.bipush 16, 2) := by decide +kernel
theorem dX10_does_194 : decode cX10_does 194 = .ok (.iload_n 3, 1) := by decide +kernel
theorem dX10_does_195 : decode cX10_does 195 = .ok (.iadd, 1) := by decide +kernel
theorem dX10_does_196 : decode cX10_does 196 = .ok (.iload 4, 2) := by decide +kernel
theorem dX10_does_198 : decode cX10_does 198 = .ok (.iastore, 1) := by decide +kernel
theorem dX10_does_199 : decode cX10_does 199 = .ok (.iconst 1, 1) := by decide +kernel
theorem dX10_does_200 : decode cX10_does 200 = .ok (.ireturn, 1) := by decide +kernel
theorem dX10_does_201 : decode cX10_does 201 = .ok (.iload_n 2, 1) := by decide +kernel
theorem dX10_does_202 : decode cX10_does 202 = .ok (.invokestatic 149, 3) := by decide +kernel
theorem dX10_does_205 : decode cX10_does 205 = .ok (.ifCond .ne 5, 3) := by decide +kernel
theorem dX10_does_208 : decode cX10_does 208 = .ok (.iconst 0, 1) := by decide +kernel
theorem dX10_does_209 : decode cX10_does 209 = .ok (.ireturn, 1) := by decide +kernel
theorem dX10_does_210 : decode cX10_does 210 = .ok (.aload_n 0, 1) := by decide +kernel
theorem dX10_does_211 : decode cX10_does 211 = .ok (.getfield 19, 3) := by decide +kernel
theorem dX10_does_214 : decode cX10_does 214 = .ok (.iload_n 2, 1) := by decide +kernel
theorem dX10_does_215 : decode cX10_does 215 = .ok (.invokestatic 173, 3) := by decide +kernel
theorem dX10_does_218 : decode cX10_does 218 = .ok (.iconst 1, 1) := by decide +kernel
theorem dX10_does_219 : decode cX10_does 219 = .ok (.ireturn, 1) := by decide +kernel
theorem dX10_does_220 : decode cX10_does 220 = .ok (.iload_n 3, 1) := by decide +kernel
theorem dX10_does_221 : decode cX10_does 221 = .ok (.invokestatic 152, 3) := by decide +kernel
theorem dX10_does_224 : decode cX10_does 224 = .ok (.ifCond .eq 8, 3) := by decide +kernel
theorem dX10_does_227 : decode cX10_does 227 = .ok (.iload 4, 2) := by decide +kernel
theorem dX10_does_229 : decode cX10_does 229 = .ok (.ifCond .eq 5, 3) := by decide +kernel
theorem dX10_does_232 : decode cX10_does 232 = .ok (.iconst 0, 1) := by decide +kernel
theorem dX10_does_233 : decode cX10_does 233 = .ok (.ireturn, 1) := by decide +kernel
theorem dX10_does_234 : decode cX10_does 234 = .ok (.aload_n 0, 1) := by decide +kernel
theorem dX10_does_235 : decode cX10_does 235 = .ok (.getfield 19, 3) := by decide +kernel
theorem dX10_does_238 : decode cX10_does 238 = .ok (.iload_n 3, 1) := by decide +kernel
theorem dX10_does_239 : decode cX10_does 239 = .ok (.sipush 1440, 3) := by decide +kernel
theorem dX10_does_242 : decode cX10_does 242 = .ok (.invokestatic 176, 3) := by decide +kernel
theorem dX10_does_245 : decode cX10_does 245 = .ok (.iconst 1, 1) := by decide +kernel
theorem dX10_does_246 : decode cX10_does 246 = .ok (.ireturn, 1) := by decide +kernel
theorem dX10_does_247 : decode cX10_does 247 = .ok (.aload_n 0, 1) := by decide +kernel
theorem dX10_does_248 : decode cX10_does 248 = .ok (.getfield 19, 3) := by decide +kernel
theorem dX10_does_251 : decode cX10_does 251 = .ok (.invokestatic 58, 3) := by decide +kernel
theorem dX10_does_254 : decode cX10_does 254 = .ok (.iload_n 2, 1) := by decide +kernel
theorem dX10_does_255 : decode cX10_does 255 = .ok (.if_icmp .ne 7, 3) := by decide +kernel
theorem dX10_does_258 : decode cX10_does 258 = .ok (.iconst 1, 1) := by decide +kernel
theorem dX10_does_259 : decode cX10_does 259 = .ok (.goto 4, 3) := by decide +kernel
theorem dX10_does_262 : decode cX10_does 262 = .ok (.iconst 0, 1) := by decide +kernel
theorem dX10_does_263 : decode cX10_does 263 = .ok (.ireturn, 1) := by decide +kernel
theorem dX10_does_264 : decode cX10_does 264 = .ok (.iload_n 3, 1) := by decide +kernel
theorem dX10_does_265 : decode cX10_does 265 = .ok (.invokestatic 146, 3) := by decide +kernel
theorem dX10_does_268 : decode cX10_does 268 = .ok (.ifCond .eq 21, 3) := by decide +kernel
theorem dX10_does_271 : decode cX10_does 271 = .ok (.aload_n 0, 1) := by decide +kernel
theorem dX10_does_272 : decode cX10_does 272 = .ok (.getfield 19, 3) := by decide +kernel
theorem dX10_does_275 : decode cX10_does 275 = .ok (.bipush 16, 2) := by decide +kernel
theorem dX10_does_277 : decode cX10_does 277 = .ok (.iload_n 3, 1) := by decide +kernel
theorem dX10_does_278 : decode cX10_does 278 = .ok (.iadd, 1) := by decide +kernel
theorem dX10_does_279 : decode cX10_does 279 = .ok (.iaload, 1) := by decide +kernel
theorem dX10_does_280 : decode cX10_does 280 = .ok (.iload 4, 2) := by decide +kernel
theorem dX10_does_282 : decode cX10_does 282 = .ok (.if_icmp .ne 7, 3) := by decide +kernel
theorem dX10_does_285 : decode cX10_does 285 = .ok (.iconst 1, 1) := by decide +kernel
theorem dX10_does_286 : decode cX10_does 286 = .ok (.goto 4, 3) := by decide +kernel
theorem dX10_does_289 : decode cX10_does 289 = .ok (.iconst 0, 1) := by decide +kernel
theorem dX10_does_290 : decode cX10_does 290 = .ok (.ireturn, 1) := by decide +kernel
theorem dX10_does_291 : decode cX10_does 291 = .ok (.iload_n 3, 1) := by decide +kernel
theorem dX10_does_292 : decode cX10_does 292 = .ok (.iconst 2, 1) := by decide +kernel
theorem dX10_does_293 : decode cX10_does 293 = .ok (.if_icmp .ge 29, 3) := by decide +kernel
theorem dX10_does_296 : decode cX10_does 296 = .ok (.aload_n 0, 1) := by decide +kernel
theorem dX10_does_297 : decode cX10_does 297 = .ok (.getfield 19, 3) := by decide +kernel
theorem dX10_does_300 : decode cX10_does 300 = .ok (.invokestatic 132, 3) := by decide +kernel
theorem dX10_does_303 : decode cX10_does 303 = .ok (.iload_n 3, 1) := by decide +kernel
theorem dX10_does_304 : decode cX10_does 304 = .ok (.ifCond .ne 8, 3) := by decide +kernel
theorem dX10_does_307 : decode cX10_does 307 = .ok (.iload 4, 2) := by decide +kernel
theorem dX10_does_309 : decode cX10_does 309 = .ok (.goto 6, 3) := by decide +kernel
theorem dX10_does_312 : decode cX10_does 312 = .ok (.iload 4, 2) := by decide +kernel
theorem dX10_does_314 : decode cX10_does 314 = .ok (.ineg, 1) := by decide +kernel
theorem dX10_does_315 : decode cX10_does 315 = .ok (.if_icmp .gt 7, 3) := by decide +kernel
theorem dX10_does_318 : decode cX10_does 318 = .ok (.iconst 1, 1) := by decide +kernel
theorem dX10_does_319 : decode cX10_does 319 = .ok (.goto 4, 3) := by decide +kernel
theorem dX10_does_322 : decode cX10_does 322 = .ok (.iconst 0, 1) := by decide +kernel
theorem dX10_does_323 : decode cX10_does 323 = .ok (.ireturn, 1) := by decide +kernel
theorem dX10_does_324 : decode cX10_does 324 = .ok (.iconst 0, 1) := by decide +kernel
theorem dX10_does_325 : decode cX10_does 325 = .ok (.ireturn, 1) := by decide +kernel
set_option maxRecDepth 20000 in
theorem ggX10_runScript_X10_in : GoodIn wsX10_runScript wsX10_in := goodIn_r _ [9] (by decide +kernel) (by decide +kernel)
set_option maxRecDepth 20000 in
theorem gX10_runScript_X10_in : GoodIn wsX10_runScript (va_wsS RX10 91 yX10_in wsX10_in) := goodIn_app (goodIn_of _ (by decide +kernel)) ggX10_runScript_X10_in
set_option maxRecDepth 20000 in
theorem ggX10_runScript_X10_refused : GoodIn wsX10_runScript wsX10_refused := goodIn_r _ [13, 14, 83, 84, 85, 86, 87, 88, 89, 90, 91, 92, 93, 94, 95, 96, 97] (by decide +kernel) (by decide +kernel)
set_option maxRecDepth 20000 in
theorem gX10_runScript_X10_refused : GoodIn wsX10_runScript (wsV RX10 98 RX10 yX10_refused wsX10_refused) := goodIn_app (goodIn_of _ (by decide +kernel)) ggX10_runScript_X10_refused
set_option maxRecDepth 20000 in
theorem ggX10_runScript_X10_copyNow : GoodIn wsX10_runScript wsX10_copyNow := goodIn_r _ [18, 19, 20, 21, 22, 23, 24, 8, 25, 83, 84, 85, 86, 87, 88, 89, 90, 91, 92, 93, 94, 95, 96, 97] (by decide +kernel) (by decide +kernel)
set_option maxRecDepth 20000 in
theorem gX10_runScript_X10_copyNow : GoodIn wsX10_runScript (wsV RX10 182 RX10 yX10_copyNow wsX10_copyNow) := goodIn_app (goodIn_of _ (by decide +kernel)) ggX10_runScript_X10_copyNow
set_option maxRecDepth 20000 in
theorem ggX10_runScript_X10_does : GoodIn wsX10_runScript wsX10_does := goodIn_r _ [29, 20, 30, 21, 31, 32, 8, 33, 6, 7, 9, 34, 35, 36, 37, 38, 39, 40, 41, 42, 43, 44, 45, 46, 47, 48, 49, 50, 51, 52, 53, 54, 55, 56, 57, 58, 59, 60, 61, 62, 63, 64, 65, 66, 67, 68, 69, 70, 71, 72, 73, 74, 75, 76, 4, 77, 78, 79, 5, 80, 81, 82, 83, 84, 85, 86, 87, 88, 89, 90, 91, 92, 93, 94, 95, 96, 97] (by decide +kernel) (by decide +kernel)
set_option maxRecDepth 20000 in
theorem gX10_runScript_X10_does : GoodIn wsX10_runScript (wsV RX10 197 RX10 yX10_does wsX10_does) := goodIn_app (goodIn_of _ (by decide +kernel)) ggX10_runScript_X10_does
theorem dX10_runScript_0 : decode cX10_runScript 0 = .ok (.iload_n 1, 1) := by decide +kernel
theorem dX10_runScript_1 : decode cX10_runScript 1 = .ok (.iconst 1, 1) := by decide +kernel
theorem dX10_runScript_2 : decode cX10_runScript 2 = .ok (.if_icmp .ne 9, 3) := by decide +kernel
theorem dX10_runScript_5 : decode cX10_runScript 5 = .ok (.ldc2_w 191, 3) := by decide +kernel
theorem dX10_runScript_8 : decode cX10_runScript 8 = .ok (.goto 17, 3) := by decide +kernel
theorem dX10_runScript_11 : decode cX10_runScript 11 = .ok (.iload_n 1, 1) := by decide +kernel
theorem dX10_runScript_12 : decode cX10_runScript 12 = .ok (.iconst 2, 1) := by decide +kernel
theorem dX10_runScript_13 : decode cX10_runScript 13 = .ok (.if_icmp .ne 9, 3) := by decide +kernel
theorem dX10_runScript_16 : decode cX10_runScript 16 = .ok (.ldc2_w 193, 3) := by decide +kernel
theorem dX10_runScript_19 : decode cX10_runScript 19 = .ok (.goto 6, 3) := by decide +kernel
theorem dX10_runScript_22 : decode cX10_runScript 22 = .ok (.ldc2_w 195, 3) := by decide +kernel
theorem dX10_runScript_25 : decode cX10_runScript 25 = .ok (.lstore 4, 2) := by decide +kernel
theorem dX10_runScript_27 : decode cX10_runScript 27 = .ok (.aload_n 0, 1) := by decide +kernel
theorem dX10_runScript_28 : decode cX10_runScript 28 = .ok (.iload_n 1, 1) := by decide +kernel
theorem dX10_runScript_29 : decode cX10_runScript 29 = .ok (.i2l, 1) := by decide +kernel
theorem dX10_runScript_30 : decode cX10_runScript 30 = .ok (.lconst 1, 1) := by decide +kernel
theorem dX10_runScript_31 : decode cX10_runScript 31 = .ok (.ldc2_w 144, 3) := by decide +kernel
theorem dX10_runScript_34 : decode cX10_runScript 34 = .ok (.invokestatic 91, 3) := by decide +kernel
theorem dX10_runScript_37 : decode cX10_runScript 37 = .ok (.ifCond .eq 19, 3) := by decide +kernel
theorem dX10_runScript_40 : decode cX10_runScript 40 = .ok (.lload_n 2, 1) := by decide +kernel
theorem dX10_runScript_41 : decode cX10_runScript 41 = .ok (.lconst 0, 1) := by decide +kernel
theorem dX10_runScript_42 : decode cX10_runScript 42 = .ok (.lload 4, 2) := by decide +kernel
theorem dX10_runScript_44 : decode cX10_runScript 44 = .ok (.lconst 1, 1) := by decide +kernel
theorem dX10_runScript_45 : decode cX10_runScript 45 = .ok (.lsub, 1) := by decide +kernel
theorem dX10_runScript_46 : decode cX10_runScript 46 = .ok (.invokestatic 91, 3) := by decide +kernel
theorem dX10_runScript_49 : decode cX10_runScript 49 = .ok (.ifCond .eq 7, 3) := by decide +kernel
theorem dX10_runScript_52 : decode cX10_runScript 52 = .ok (.iconst 0, 1) := by decide +kernel
theorem dX10_runScript_53 : decode cX10_runScript 53 = .ok (.goto 4, 3) := by decide +kernel
theorem dX10_runScript_56 : decode cX10_runScript 56 = .ok (.iconst 1, 1) := by decide +kernel
theorem dX10_runScript_57 : decode cX10_runScript 57 = .ok (.invokevirtual 98, 3) := by decide +kernel
theorem dX10_runScript_60 : decode cX10_runScript 60 = .ok (.ifCond .eq 5, 3) := by decide +kernel
theorem dX10_runScript_63 : decode cX10_runScript 63 = .ok (.iconst 0, 1) := by decide +kernel
theorem dX10_runScript_64 : decode cX10_runScript 64 = .ok (.ireturn, 1) := by decide +kernel
theorem dX10_runScript_65 : decode cX10_runScript 65 = .ok (.aload_n 0, 1) := by decide +kernel
theorem dX10_runScript_66 : decode cX10_runScript 66 = .ok (.invokevirtual 182, 3) := by decide +kernel
theorem dX10_runScript_69 : decode cX10_runScript 69 = .ok (.lload_n 2, 1) := by decide +kernel
theorem dX10_runScript_70 : decode cX10_runScript 70 = .ok (.lstore 6, 2) := by decide +kernel
theorem dX10_runScript_72 : decode cX10_runScript 72 = .ok (.iconst 0, 1) := by decide +kernel
theorem dX10_runScript_73 : decode cX10_runScript 73 = .ok (.istore 8, 2) := by decide +kernel
theorem dX10_runScript_75 : decode cX10_runScript 75 = .ok (.iload 8, 2) := by decide +kernel
theorem dX10_runScript_77 : decode cX10_runScript 77 = .ok (.iload_n 1, 1) := by decide +kernel
theorem dX10_runScript_78 : decode cX10_runScript 78 = .ok (.if_icmp .ge 54, 3) := by decide +kernel
theorem dX10_runScript_81 : decode cX10_runScript 81 = .ok (.lload 4, 2) := by decide +kernel
theorem dX10_runScript_83 : decode cX10_runScript 83 = .ok (.ldc2_w 191, 3) := by decide +kernel
theorem dX10_runScript_86 : decode cX10_runScript 86 = .ok (.ldiv, 1) := by decide +kernel
theorem dX10_runScript_87 : decode cX10_runScript 87 = .ok (.lstore 4, 2) := by decide +kernel
theorem dX10_runScript_89 : decode cX10_runScript 89 = .ok (.lload 6, 2) := by decide +kernel
theorem dX10_runScript_91 : decode cX10_runScript 91 = .ok (.lload 4, 2) := by decide +kernel
theorem dX10_runScript_93 : decode cX10_runScript 93 = .ok (.ldiv, 1) := by decide +kernel
theorem dX10_runScript_94 : decode cX10_runScript 94 = .ok (.l2i, 1) := by decide +kernel
theorem dX10_runScript_95 : decode cX10_runScript 95 = .ok (.istore 9, 2) := by decide +kernel
theorem dX10_runScript_97 : decode cX10_runScript 97 = .ok (.lload 6, 2) := by decide +kernel
theorem dX10_runScript_99 : decode cX10_runScript 99 = .ok (.lload 4, 2) := by decide +kernel
theorem dX10_runScript_101 : decode cX10_runScript 101 = .ok (.lrem, 1) := by decide +kernel
theorem dX10_runScript_102 : decode cX10_runScript 102 = .ok (.lstore 6, 2) := by decide +kernel
theorem dX10_runScript_104 : decode cX10_runScript 104 = .ok (.aload_n 0, 1) := by decide +kernel
theorem dX10_runScript_105 : decode cX10_runScript 105 = .ok (.iload 9, 2) := by decide +kernel
theorem dX10_runScript_107 : decode cX10_runScript 107 = .ok (.sipush 10000, 3) := by decide +kernel
theorem dX10_runScript_110 : decode cX10_runScript 110 = .ok (.idiv, 1) := by decide +kernel
theorem dX10_runScript_111 : decode cX10_runScript 111 = .ok (.iload 9, 2) := by decide +kernel
theorem dX10_runScript_113 : decode cX10_runScript 113 = .ok (.sipush 10000, 3) := by decide +kernel
theorem dX10_runScript_116 : decode cX10_runScript 116 = .ok (.irem, 1) := by decide +kernel
theorem dX10_runScript_117 : decode cX10_runScript 117 = .ok (.invokevirtual 197, 3) := by decide +kernel
theorem dX10_runScript_120 : decode cX10_runScript 120 = .ok (.ifCond .ne 6, 3) := by decide +kernel
theorem dX10_runScript_123 : decode cX10_runScript 123 = .ok (.iload 8, 2) := by decide +kernel
theorem dX10_runScript_125 : decode cX10_runScript 125 = .ok (.ireturn, 1) := by decide +kernel
theorem dX10_runScript_126 : decode cX10_runScript 126 = .ok (.iinc 8 1, 3) := by decide +kernel
theorem dX10_runScript_129 : decode cX10_runScript 129 = .ok (.goto (-54), 3) := by decide +kernel
theorem dX10_runScript_132 : decode cX10_runScript 132 = .ok (.ldc 53, 2) := by decide +kernel
theorem dX10_runScript_134 : decode cX10_runScript 134 = .ok (.ireturn, 1) := by decide +kernel
set_option maxRecDepth 20000 in
theorem ggX10_simulate_X10_in : GoodIn wsX10_simulate wsX10_in := goodIn_r _ [9] (by decide +kernel) (by decide +kernel)
set_option maxRecDepth 20000 in
theorem gX10_simulate_X10_in : GoodIn wsX10_simulate (va_wsS RX10 91 yX10_in wsX10_in) := goodIn_app (goodIn_of _ (by decide +kernel)) ggX10_simulate_X10_in
set_option maxRecDepth 20000 in
theorem ggX10_simulate_X10_refused : GoodIn wsX10_simulate wsX10_refused := goodIn_r _ [13, 14, 59, 60, 61, 62, 63, 64, 65, 66, 67, 68, 69, 70, 71, 72, 73] (by decide +kernel) (by decide +kernel)
set_option maxRecDepth 20000 in
theorem gX10_simulate_X10_refused : GoodIn wsX10_simulate (wsV RX10 98 RX10 yX10_refused wsX10_refused) := goodIn_app (goodIn_of _ (by decide +kernel)) ggX10_simulate_X10_refused
set_option maxRecDepth 20000 in
theorem ggX10_simulate_X10_copyNow : GoodIn wsX10_simulate wsX10_copyNow := goodIn_r _ [18, 19, 4, 5, 20, 21, 22, 8, 23, 59, 60, 61, 62, 63, 64, 65, 66, 67, 68, 69, 70, 71, 72, 73] (by decide +kernel) (by decide +kernel)
set_option maxRecDepth 20000 in
theorem gX10_simulate_X10_copyNow : GoodIn wsX10_simulate (wsV RX10 182 RX10 yX10_copyNow wsX10_copyNow) := goodIn_app (goodIn_of _ (by decide +kernel)) ggX10_simulate_X10_copyNow
set_option maxRecDepth 20000 in
theorem ggX10_simulate_X10_levelOn : GoodIn wsX10_simulate wsX10_levelOn := goodIn_r _ [26, 27, 28, 8, 29, 30, 31, 32, 33, 34, 35, 36, 37, 38] (by decide +kernel) (by decide +kernel)
set_option maxRecDepth 20000 in
theorem gX10_simulate_X10_levelOn : GoodIn wsX10_simulate (va_wsS RX10 164 yX10_levelOn wsX10_levelOn) := goodIn_app (goodIn_of _ (by decide +kernel)) ggX10_simulate_X10_levelOn
set_option maxRecDepth 20000 in
theorem ggX10_simulate_X10_tamperOn : GoodIn wsX10_simulate wsX10_tamperOn := goodIn_r _ [41, 27, 28, 8, 29] (by decide +kernel) (by decide +kernel)
set_option maxRecDepth 20000 in
theorem gX10_simulate_X10_tamperOn : GoodIn wsX10_simulate (va_wsS RX10 173 yX10_tamperOn wsX10_tamperOn) := goodIn_app (goodIn_of _ (by decide +kernel)) ggX10_simulate_X10_tamperOn
set_option maxRecDepth 20000 in
theorem ggX10_simulate_X10_minutesOn : GoodIn wsX10_simulate wsX10_minutesOn := goodIn_r _ [44, 45, 46, 8, 47, 27, 28, 29, 48, 49, 50, 30, 31, 32, 33, 34, 35, 36, 37, 38, 51, 52, 53, 54, 55, 56, 57, 58] (by decide +kernel) (by decide +kernel)
set_option maxRecDepth 20000 in
theorem gX10_simulate_X10_minutesOn : GoodIn wsX10_simulate (va_wsS RX10 160 yX10_minutesOn wsX10_minutesOn) := goodIn_app (goodIn_of _ (by decide +kernel)) ggX10_simulate_X10_minutesOn
set_option maxRecDepth 20000 in
theorem ggX10_simulate_X10_domainOf : GoodIn wsX10_simulate wsX10_domainOf := goodIn_r _ [29] (by decide +kernel) (by decide +kernel)
set_option maxRecDepth 20000 in
theorem gX10_simulate_X10_domainOf : GoodIn wsX10_simulate (va_wsS RX10 58 yX10_domainOf wsX10_domainOf) := goodIn_app (goodIn_of _ (by decide +kernel)) ggX10_simulate_X10_domainOf
theorem dX10_simulate_0 : decode cX10_simulate 0 = .ok (.aload_n 0, 1) := by decide +kernel
theorem dX10_simulate_1 : decode cX10_simulate 1 = .ok (.iload_n 3, 1) := by decide +kernel
theorem dX10_simulate_2 : decode cX10_simulate 2 = .ok (.i2l, 1) := by decide +kernel
theorem dX10_simulate_3 : decode cX10_simulate 3 = .ok (.lconst 1, 1) := by decide +kernel
theorem dX10_simulate_4 : decode cX10_simulate 4 = .ok (.ldc2_w 201, 3) := by decide +kernel
theorem dX10_simulate_7 : decode cX10_simulate 7 = .ok (.invokestatic 91, 3) := by decide +kernel
theorem dX10_simulate_10 : decode cX10_simulate 10 = .ok (.ifCond .eq 7, 3) := by decide +kernel
theorem dX10_simulate_13 : decode cX10_simulate 13 = .ok (.iconst 0, 1) := by decide +kernel
theorem dX10_simulate_14 : decode cX10_simulate 14 = .ok (.goto 4, 3) := by decide +kernel
theorem dX10_simulate_17 : decode cX10_simulate 17 = .ok (.iconst 1, 1) := by decide +kernel
theorem dX10_simulate_18 : decode cX10_simulate 18 = .ok (.invokevirtual 98, 3) := by decide +kernel
theorem dX10_simulate_21 : decode cX10_simulate 21 = .ok (.ifCond .eq 5, 3) := by decide +kernel
theorem dX10_simulate_24 : decode cX10_simulate 24 = .ok (.iconst 0, 1) := by decide +kernel
theorem dX10_simulate_25 : decode cX10_simulate 25 = .ok (.ireturn, 1) := by decide +kernel
theorem dX10_simulate_26 : decode cX10_simulate 26 = .ok (.aload_n 0, 1) := by decide +kernel
theorem dX10_simulate_27 : decode cX10_simulate 27 = .ok (.invokevirtual 182, 3) := by decide +kernel
theorem dX10_simulate_30 : decode cX10_simulate 30 = .ok (.lload_n 1, 1) := by decide +kernel
theorem dX10_simulate_31 : decode cX10_simulate 31 = .ok (.lstore 4, 2) := by decide +kernel
theorem dX10_simulate_33 : decode cX10_simulate 33 = .ok (.iconst 0, 1) := by decide +kernel
theorem dX10_simulate_34 : decode cX10_simulate 34 = .ok (.istore 6, 2) := by decide +kernel
theorem dX10_simulate_36 : decode cX10_simulate 36 = .ok (.iload 6, 2) := by decide +kernel
theorem dX10_simulate_38 : decode cX10_simulate 38 = .ok (.iload_n 3, 1) := by decide +kernel
theorem dX10_simulate_39 : decode cX10_simulate 39 = .ok (.if_icmp .ge 99, 3) := by decide +kernel
theorem dX10_simulate_42 : decode cX10_simulate 42 = .ok (.lload 4, 2) := by decide +kernel
theorem dX10_simulate_44 : decode cX10_simulate 44 = .ok (.ldc2_w 203, 3) := by decide +kernel
theorem dX10_simulate_47 : decode cX10_simulate 47 = .ok (.lmul, 1) := by decide +kernel
theorem dX10_simulate_48 : decode cX10_simulate 48 = .ok (.ldc2_w 205, 3) := by decide +kernel
theorem dX10_simulate_51 : decode cX10_simulate 51 = .ok (.ladd, 1) := by decide +kernel
theorem dX10_simulate_52 : decode cX10_simulate 52 = .ok (.lstore 4, 2) := by decide +kernel
theorem dX10_simulate_54 : decode cX10_simulate 54 = .ok (.lload 4, 2) := by decide +kernel
theorem dX10_simulate_56 : decode cX10_simulate 56 = .ok (.bipush 33, 2) := by decide +kernel
theorem dX10_simulate_58 : decode cX10_simulate 58 = .ok (.lushr, 1) := by decide +kernel
theorem dX10_simulate_59 : decode cX10_simulate 59 = .ok (.l2i, 1) := by decide +kernel
theorem dX10_simulate_60 : decode cX10_simulate 60 = .ok (.istore 7, 2) := by decide +kernel
theorem dX10_simulate_62 : decode cX10_simulate 62 = .ok (.iload 7, 2) := by decide +kernel
theorem dX10_simulate_64 : decode cX10_simulate 64 = .ok (.bipush 8, 2) := by decide +kernel
theorem dX10_simulate_66 : decode cX10_simulate 66 = .ok (.irem, 1) := by decide +kernel
theorem dX10_simulate_67 : decode cX10_simulate 67 = .ok (.ifCond .ne 21, 3) := by decide +kernel
theorem dX10_simulate_70 : decode cX10_simulate 70 = .ok (.aload_n 0, 1) := by decide +kernel
theorem dX10_simulate_71 : decode cX10_simulate 71 = .ok (.getfield 19, 3) := by decide +kernel
theorem dX10_simulate_74 : decode cX10_simulate 74 = .ok (.iload 7, 2) := by decide +kernel
theorem dX10_simulate_76 : decode cX10_simulate 76 = .ok (.bipush 8, 2) := by decide +kernel
theorem dX10_simulate_78 : decode cX10_simulate 78 = .ok (.idiv, 1) := by decide +kernel
theorem dX10_simulate_79 : decode cX10_simulate 79 = .ok (.bipush 10, 2) := by decide +kernel
theorem dX10_simulate_81 : decode cX10_simulate 81 = .ok (.irem, 1) := by decide +kernel
theorem dX10_simulate_82 : decode cX10_simulate 82 = .ok (.invokestatic 164, 3) := by decide +kernel
theorem dX10_simulate_85 : decode cX10_simulate 85 = .ok (.goto 26, 3) := by decide +kernel
theorem dX10_simulate_88 : decode cX10_simulate 88 = .ok (.iload 7, 2) := by decide +kernel
theorem dX10_simulate_90 : decode cX10_simulate 90 = .ok (.bipush 8, 2) := by decide +kernel
theorem dX10_simulate_92 : decode cX10_simulate 92 = .ok (.irem, 1) := by decide +kernel
theorem dX10_simulate_93 : decode cX10_simulate 93 = .ok (.iconst 1, 1) := by decide +kernel
theorem dX10_simulate_94 : decode cX10_simulate 94 = .ok (.if_icmp .ne 17, 3) := by decide +kernel
theorem dX10_simulate_97 : decode cX10_simulate 97 = .ok (.aload_n 0, 1) := by decide +kernel
theorem dX10_simulate_98 : decode cX10_simulate 98 = .ok (.getfield 19, 3) := by decide +kernel
theorem dX10_simulate_101 : decode cX10_simulate 101 = .ok (.iload 7, 2) := by decide +kernel
theorem dX10_simulate_103 : decode cX10_simulate 103 = .ok (.bipush 8, 2) := by decide +kernel
theorem dX10_simulate_105 : decode cX10_simulate 105 = .ok (.idiv, 1) := by decide +kernel
theorem dX10_simulate_106 : decode cX10_simulate 106 = .ok (.iconst 3, 1) := by decide +kernel
theorem dX10_simulate_107 : decode cX10_simulate 107 = .ok (.irem, 1) := by decide +kernel
theorem dX10_simulate_108 : decode cX10_simulate 108 = .ok (.invokestatic 173, 3) := by decide +kernel
theorem dX10_simulate_111 : decode cX10_simulate 111 = .ok (.aload_n 0, 1) := by decide +kernel
theorem dX10_simulate_112 : decode cX10_simulate 112 = .ok (.getfield 19, 3) := by decide +kernel
theorem dX10_simulate_115 : decode cX10_simulate 115 = .ok (.aload_n 0, 1) := by decide +kernel
theorem dX10_simulate_116 : decode cX10_simulate 116 = .ok (.getfield 36, 3) := by decide +kernel
theorem dX10_simulate_119 : decode cX10_simulate 119 = .ok (.iconst 1, 1) := by decide +kernel
theorem dX10_simulate_120 : decode cX10_simulate 120 = .ok (.iload 7, 2) := by decide +kernel
theorem dX10_simulate_122 : decode cX10_simulate 122 = .ok (.bipush 64, 2) := by decide +kernel
theorem dX10_simulate_124 : decode cX10_simulate 124 = .ok (.idiv, 1) := by decide +kernel
theorem dX10_simulate_125 : decode cX10_simulate 125 = .ok (.bipush 60, 2) := by decide +kernel
theorem dX10_simulate_127 : decode cX10_simulate 127 = .ok (.irem, 1) := by decide +kernel
theorem dX10_simulate_128 : decode cX10_simulate 128 = .ok (.iadd, 1) := by decide +kernel
theorem dX10_simulate_129 : decode cX10_simulate 129 = .ok (.invokestatic 160, 3) := by decide +kernel
theorem dX10_simulate_132 : decode cX10_simulate 132 = .ok (.iinc 6 1, 3) := by decide +kernel
theorem dX10_simulate_135 : decode cX10_simulate 135 = .ok (.goto (-99), 3) := by decide +kernel
theorem dX10_simulate_138 : decode cX10_simulate 138 = .ok (.bipush 100, 2) := by decide +kernel
theorem dX10_simulate_140 : decode cX10_simulate 140 = .ok (.aload_n 0, 1) := by decide +kernel
theorem dX10_simulate_141 : decode cX10_simulate 141 = .ok (.getfield 19, 3) := by decide +kernel
theorem dX10_simulate_144 : decode cX10_simulate 144 = .ok (.bipush 7, 2) := by decide +kernel
theorem dX10_simulate_146 : decode cX10_simulate 146 = .ok (.iaload, 1) := by decide +kernel
theorem dX10_simulate_147 : decode cX10_simulate 147 = .ok (.imul, 1) := by decide +kernel
theorem dX10_simulate_148 : decode cX10_simulate 148 = .ok (.bipush 10, 2) := by decide +kernel
theorem dX10_simulate_150 : decode cX10_simulate 150 = .ok (.aload_n 0, 1) := by decide +kernel
theorem dX10_simulate_151 : decode cX10_simulate 151 = .ok (.getfield 19, 3) := by decide +kernel
theorem dX10_simulate_154 : decode cX10_simulate 154 = .ok (.invokestatic 58, 3) := by decide +kernel
theorem dX10_simulate_157 : decode cX10_simulate 157 = .ok (.imul, 1) := by decide +kernel
theorem dX10_simulate_158 : decode cX10_simulate 158 = .ok (.iadd, 1) := by decide +kernel
theorem dX10_simulate_159 : decode cX10_simulate 159 = .ok (.aload_n 0, 1) := by decide +kernel
theorem dX10_simulate_160 : decode cX10_simulate 160 = .ok (.getfield 19, 3) := by decide +kernel
theorem dX10_simulate_163 : decode cX10_simulate 163 = .ok (.bipush 11, 2) := by decide +kernel
theorem dX10_simulate_165 : decode cX10_simulate 165 = .ok (.iaload, 1) := by decide +kernel
theorem dX10_simulate_166 : decode cX10_simulate 166 = .ok (.iadd, 1) := by decide +kernel
theorem dX10_simulate_167 : decode cX10_simulate 167 = .ok (.ireturn, 1) := by decide +kernel
set_option maxRecDepth 20000 in
theorem ggX10_save_X10_in : GoodIn wsX10_save wsX10_in := goodIn_r _ [9] (by decide +kernel) (by decide +kernel)
set_option maxRecDepth 20000 in
theorem gX10_save_X10_in : GoodIn wsX10_save (va_wsS RX10 91 yX10_in wsX10_in) := goodIn_app (goodIn_of _ (by decide +kernel)) ggX10_save_X10_in
set_option maxRecDepth 20000 in
theorem ggX10_save_X10_refused : GoodIn wsX10_save wsX10_refused := goodIn_r _ [13, 14, 18, 19, 20, 21, 22, 23, 24, 25, 26, 27, 28, 29, 30, 31, 32] (by decide +kernel) (by decide +kernel)
set_option maxRecDepth 20000 in
theorem gX10_save_X10_refused : GoodIn wsX10_save (wsV RX10 98 RX10 yX10_refused wsX10_refused) := goodIn_app (goodIn_of _ (by decide +kernel)) ggX10_save_X10_refused
set_option maxRecDepth 20000 in
theorem ggX10_save_X10_copyPage : GoodIn wsX10_save wsX10_copyPage := goodIn_r _ [17] (by decide +kernel) (by decide +kernel)
set_option maxRecDepth 20000 in
theorem gX10_save_X10_copyPage : GoodIn wsX10_save (va_wsS RX10 54 yX10_copyPage wsX10_copyPage) := goodIn_app (goodIn_of _ (by decide +kernel)) ggX10_save_X10_copyPage
theorem dX10_save_0 : decode cX10_save 0 = .ok (.aload_n 0, 1) := by decide +kernel
theorem dX10_save_1 : decode cX10_save 1 = .ok (.iload_n 1, 1) := by decide +kernel
theorem dX10_save_2 : decode cX10_save 2 = .ok (.i2l, 1) := by decide +kernel
theorem dX10_save_3 : decode cX10_save 3 = .ok (.lconst 0, 1) := by decide +kernel
theorem dX10_save_4 : decode cX10_save 4 = .ok (.lconst 1, 1) := by decide +kernel
theorem dX10_save_5 : decode cX10_save 5 = .ok (.invokestatic 91, 3) := by decide +kernel
theorem dX10_save_8 : decode cX10_save 8 = .ok (.ifCond .eq 7, 3) := by decide +kernel
theorem dX10_save_11 : decode cX10_save 11 = .ok (.iconst 0, 1) := by decide +kernel
theorem dX10_save_12 : decode cX10_save 12 = .ok (.goto 4, 3) := by decide +kernel
theorem dX10_save_15 : decode cX10_save 15 = .ok (.iconst 1, 1) := by decide +kernel
theorem dX10_save_16 : decode cX10_save 16 = .ok (.invokevirtual 98, 3) := by decide +kernel
theorem dX10_save_19 : decode cX10_save 19 = .ok (.ifCond .eq 5, 3) := by decide +kernel
theorem dX10_save_22 : decode cX10_save 22 = .ok (.iconst 0, 1) := by decide +kernel
theorem dX10_save_23 : decode cX10_save 23 = .ok (.ireturn, 1) := by decide +kernel
theorem dX10_save_24 : decode cX10_save 24 = .ok (.aload_n 0, 1) := by decide +kernel
theorem dX10_save_25 : decode cX10_save 25 = .ok (.getfield 28, 3) := by decide +kernel
theorem dX10_save_28 : decode cX10_save 28 = .ok (.iload_n 1, 1) := by decide +kernel
theorem dX10_save_29 : decode cX10_save 29 = .ok (.iconst 1, 1) := by decide +kernel
theorem dX10_save_30 : decode cX10_save 30 = .ok (.bastore, 1) := by decide +kernel
theorem dX10_save_31 : decode cX10_save 31 = .ok (.aload_n 0, 1) := by decide +kernel
theorem dX10_save_32 : decode cX10_save 32 = .ok (.getfield 16, 3) := by decide +kernel
theorem dX10_save_35 : decode cX10_save 35 = .ok (.iconst 0, 1) := by decide +kernel
theorem dX10_save_36 : decode cX10_save 36 = .ok (.aload_n 0, 1) := by decide +kernel
theorem dX10_save_37 : decode cX10_save 37 = .ok (.getfield 25, 3) := by decide +kernel
theorem dX10_save_40 : decode cX10_save 40 = .ok (.bipush 57, 2) := by decide +kernel
theorem dX10_save_42 : decode cX10_save 42 = .ok (.iload_n 1, 1) := by decide +kernel
theorem dX10_save_43 : decode cX10_save 43 = .ok (.imul, 1) := by decide +kernel
theorem dX10_save_44 : decode cX10_save 44 = .ok (.invokestatic 54, 3) := by decide +kernel
theorem dX10_save_47 : decode cX10_save 47 = .ok (.aload_n 0, 1) := by decide +kernel
theorem dX10_save_48 : decode cX10_save 48 = .ok (.getfield 42, 3) := by decide +kernel
theorem dX10_save_51 : decode cX10_save 51 = .ok (.iconst 2, 1) := by decide +kernel
theorem dX10_save_52 : decode cX10_save 52 = .ok (.iload_n 1, 1) := by decide +kernel
theorem dX10_save_53 : decode cX10_save 53 = .ok (.imul, 1) := by decide +kernel
theorem dX10_save_54 : decode cX10_save 54 = .ok (.aload_n 0, 1) := by decide +kernel
theorem dX10_save_55 : decode cX10_save 55 = .ok (.getfield 32, 3) := by decide +kernel
theorem dX10_save_58 : decode cX10_save 58 = .ok (.iconst 0, 1) := by decide +kernel
theorem dX10_save_59 : decode cX10_save 59 = .ok (.laload, 1) := by decide +kernel
theorem dX10_save_60 : decode cX10_save 60 = .ok (.lastore, 1) := by decide +kernel
theorem dX10_save_61 : decode cX10_save 61 = .ok (.aload_n 0, 1) := by decide +kernel
theorem dX10_save_62 : decode cX10_save 62 = .ok (.getfield 42, 3) := by decide +kernel
theorem dX10_save_65 : decode cX10_save 65 = .ok (.iconst 2, 1) := by decide +kernel
theorem dX10_save_66 : decode cX10_save 66 = .ok (.iload_n 1, 1) := by decide +kernel
theorem dX10_save_67 : decode cX10_save 67 = .ok (.imul, 1) := by decide +kernel
theorem dX10_save_68 : decode cX10_save 68 = .ok (.iconst 1, 1) := by decide +kernel
theorem dX10_save_69 : decode cX10_save 69 = .ok (.iadd, 1) := by decide +kernel
theorem dX10_save_70 : decode cX10_save 70 = .ok (.aload_n 0, 1) := by decide +kernel
theorem dX10_save_71 : decode cX10_save 71 = .ok (.getfield 32, 3) := by decide +kernel
theorem dX10_save_74 : decode cX10_save 74 = .ok (.iconst 1, 1) := by decide +kernel
theorem dX10_save_75 : decode cX10_save 75 = .ok (.laload, 1) := by decide +kernel
theorem dX10_save_76 : decode cX10_save 76 = .ok (.lastore, 1) := by decide +kernel
theorem dX10_save_77 : decode cX10_save 77 = .ok (.aload_n 0, 1) := by decide +kernel
theorem dX10_save_78 : decode cX10_save 78 = .ok (.getfield 16, 3) := by decide +kernel
theorem dX10_save_81 : decode cX10_save 81 = .ok (.iconst 0, 1) := by decide +kernel
theorem dX10_save_82 : decode cX10_save 82 = .ok (.iaload, 1) := by decide +kernel
theorem dX10_save_83 : decode cX10_save 83 = .ok (.ireturn, 1) := by decide +kernel
set_option maxRecDepth 20000 in
theorem ggX10_restore_X10_in : GoodIn wsX10_restore wsX10_in := goodIn_r _ [10] (by decide +kernel) (by decide +kernel)
set_option maxRecDepth 20000 in
theorem gX10_restore_X10_in : GoodIn wsX10_restore (va_wsS RX10 91 yX10_in wsX10_in) := goodIn_app (goodIn_of _ (by decide +kernel)) ggX10_restore_X10_in
set_option maxRecDepth 20000 in
theorem ggX10_restore_X10_refused : GoodIn wsX10_restore wsX10_refused := goodIn_r _ [14, 15, 19, 20, 21, 22, 23, 24, 25, 26, 27, 28, 29, 30, 31, 32, 33] (by decide +kernel) (by decide +kernel)
set_option maxRecDepth 20000 in
theorem gX10_restore_X10_refused : GoodIn wsX10_restore (wsV RX10 98 RX10 yX10_refused wsX10_refused) := goodIn_app (goodIn_of _ (by decide +kernel)) ggX10_restore_X10_refused
set_option maxRecDepth 20000 in
theorem ggX10_restore_X10_copyPage : GoodIn wsX10_restore wsX10_copyPage := goodIn_r _ [18] (by decide +kernel) (by decide +kernel)
set_option maxRecDepth 20000 in
theorem gX10_restore_X10_copyPage : GoodIn wsX10_restore (va_wsS RX10 54 yX10_copyPage wsX10_copyPage) := goodIn_app (goodIn_of _ (by decide +kernel)) ggX10_restore_X10_copyPage
theorem dX10_restore_0 : decode cX10_restore 0 = .ok (.aload_n 0, 1) := by decide +kernel
theorem dX10_restore_1 : decode cX10_restore 1 = .ok (.iload_n 1, 1) := by decide +kernel
theorem dX10_restore_2 : decode cX10_restore 2 = .ok (.i2l, 1) := by decide +kernel
theorem dX10_restore_3 : decode cX10_restore 3 = .ok (.lconst 0, 1) := by decide +kernel
theorem dX10_restore_4 : decode cX10_restore 4 = .ok (.lconst 1, 1) := by decide +kernel
theorem dX10_restore_5 : decode cX10_restore 5 = .ok (.invokestatic 91, 3) := by decide +kernel
theorem dX10_restore_8 : decode cX10_restore 8 = .ok (.ifCond .ne 7, 3) := by decide +kernel
theorem dX10_restore_11 : decode cX10_restore 11 = .ok (.iconst 1, 1) := by decide +kernel
theorem dX10_restore_12 : decode cX10_restore 12 = .ok (.goto 17, 3) := by decide +kernel
theorem dX10_restore_15 : decode cX10_restore 15 = .ok (.aload_n 0, 1) := by decide +kernel
theorem dX10_restore_16 : decode cX10_restore 16 = .ok (.getfield 28, 3) := by decide +kernel
theorem dX10_restore_19 : decode cX10_restore 19 = .ok (.iload_n 1, 1) := by decide +kernel
theorem dX10_restore_20 : decode cX10_restore 20 = .ok (.baload, 1) := by decide +kernel
theorem dX10_restore_21 : decode cX10_restore 21 = .ok (.ifCond .ne 7, 3) := by decide +kernel
theorem dX10_restore_24 : decode cX10_restore 24 = .ok (.iconst 2, 1) := by decide +kernel
theorem dX10_restore_25 : decode cX10_restore 25 = .ok (.goto 4, 3) := by decide +kernel
theorem dX10_restore_28 : decode cX10_restore 28 = .ok (.iconst 0, 1) := by decide +kernel
theorem dX10_restore_29 : decode cX10_restore 29 = .ok (.invokevirtual 98, 3) := by decide +kernel
theorem dX10_restore_32 : decode cX10_restore 32 = .ok (.ifCond .eq 5, 3) := by decide +kernel
theorem dX10_restore_35 : decode cX10_restore 35 = .ok (.iconst 0, 1) := by decide +kernel
theorem dX10_restore_36 : decode cX10_restore 36 = .ok (.ireturn, 1) := by decide +kernel
theorem dX10_restore_37 : decode cX10_restore 37 = .ok (.aload_n 0, 1) := by decide +kernel
theorem dX10_restore_38 : decode cX10_restore 38 = .ok (.getfield 25, 3) := by decide +kernel
theorem dX10_restore_41 : decode cX10_restore 41 = .ok (.bipush 57, 2) := by decide +kernel
theorem dX10_restore_43 : decode cX10_restore 43 = .ok (.iload_n 1, 1) := by decide +kernel
theorem dX10_restore_44 : decode cX10_restore 44 = .ok (.imul, 1) := by decide +kernel
theorem dX10_restore_45 : decode cX10_restore 45 = .ok (.aload_n 0, 1) := by decide +kernel
theorem dX10_restore_46 : decode cX10_restore 46 = .ok (.getfield 16, 3) := by decide +kernel
theorem dX10_restore_49 : decode cX10_restore 49 = .ok (.iconst 0, 1) := by decide +kernel
theorem dX10_restore_50 : decode cX10_restore 50 = .ok (.invokestatic 54, 3) := by decide +kernel
theorem dX10_restore_53 : decode cX10_restore 53 = .ok (.aload_n 0, 1) := by decide +kernel
theorem dX10_restore_54 : decode cX10_restore 54 = .ok (.getfield 32, 3) := by decide +kernel
theorem dX10_restore_57 : decode cX10_restore 57 = .ok (.iconst 0, 1) := by decide +kernel
theorem dX10_restore_58 : decode cX10_restore 58 = .ok (.aload_n 0, 1) := by decide +kernel
theorem dX10_restore_59 : decode cX10_restore 59 = .ok (.getfield 42, 3) := by decide +kernel
theorem dX10_restore_62 : decode cX10_restore 62 = .ok (.iconst 2, 1) := by decide +kernel
theorem dX10_restore_63 : decode cX10_restore 63 = .ok (.iload_n 1, 1) := by decide +kernel
theorem dX10_restore_64 : decode cX10_restore 64 = .ok (.imul, 1) := by decide +kernel
theorem dX10_restore_65 : decode cX10_restore 65 = .ok (.laload, 1) := by decide +kernel
theorem dX10_restore_66 : decode cX10_restore 66 = .ok (.lastore, 1) := by decide +kernel
theorem dX10_restore_67 : decode cX10_restore 67 = .ok (.aload_n 0, 1) := by decide +kernel
theorem dX10_restore_68 : decode cX10_restore 68 = .ok (.getfield 32, 3) := by decide +kernel
theorem dX10_restore_71 : decode cX10_restore 71 = .ok (.iconst 1, 1) := by decide +kernel
theorem dX10_restore_72 : decode cX10_restore 72 = .ok (.aload_n 0, 1) := by decide +kernel
theorem dX10_restore_73 : decode cX10_restore 73 = .ok (.getfield 42, 3) := by decide +kernel
theorem dX10_restore_76 : decode cX10_restore 76 = .ok (.iconst 2, 1) := by decide +kernel
theorem dX10_restore_77 : decode cX10_restore 77 = .ok (.iload_n 1, 1) := by decide +kernel
theorem dX10_restore_78 : decode cX10_restore 78 = .ok (.imul, 1) := by decide +kernel
theorem dX10_restore_79 : decode cX10_restore 79 = .ok (.iconst 1, 1) := by decide +kernel
theorem dX10_restore_80 : decode cX10_restore 80 = .ok (.iadd, 1) := by decide +kernel
theorem dX10_restore_81 : decode cX10_restore 81 = .ok (.laload, 1) := by decide +kernel
theorem dX10_restore_82 : decode cX10_restore 82 = .ok (.lastore, 1) := by decide +kernel
theorem dX10_restore_83 : decode cX10_restore 83 = .ok (.aload_n 0, 1) := by decide +kernel
theorem dX10_restore_84 : decode cX10_restore 84 = .ok (.iconst 0, 1) := by decide +kernel
theorem dX10_restore_85 : decode cX10_restore 85 = .ok (.putfield 124, 3) := by decide +kernel
theorem dX10_restore_88 : decode cX10_restore 88 = .ok (.aload_n 0, 1) := by decide +kernel
theorem dX10_restore_89 : decode cX10_restore 89 = .ok (.getfield 16, 3) := by decide +kernel
theorem dX10_restore_92 : decode cX10_restore 92 = .ok (.iconst 0, 1) := by decide +kernel
theorem dX10_restore_93 : decode cX10_restore 93 = .ok (.iaload, 1) := by decide +kernel
theorem dX10_restore_94 : decode cX10_restore 94 = .ok (.ireturn, 1) := by decide +kernel
theorem dJ9_abs_0f7a4_0 : decode cJ9_abs_0f7a4 0 = .ok (.iload_n 0, 1) := by decide +kernel
theorem dJ9_abs_0f7a4_1 : decode cJ9_abs_0f7a4 1 = .ok (.ifCond .ge 8, 3) := by decide +kernel
theorem dJ9_abs_0f7a4_4 : decode cJ9_abs_0f7a4 4 = .ok (.iload_n 0, 1) := by decide +kernel
theorem dJ9_abs_0f7a4_5 : decode cJ9_abs_0f7a4 5 = .ok (.ineg, 1) := by decide +kernel
theorem dJ9_abs_0f7a4_6 : decode cJ9_abs_0f7a4 6 = .ok (.goto 4, 3) := by decide +kernel
theorem dJ9_abs_0f7a4_9 : decode cJ9_abs_0f7a4 9 = .ok (.iload_n 0, 1) := by decide +kernel
theorem dJ9_abs_0f7a4_10 : decode cJ9_abs_0f7a4 10 = .ok (.ireturn, 1) := by decide +kernel
set_option maxRecDepth 20000 in
theorem ggL_append_X9_append : GoodIn wsL_append wsX9_append := goodIn_ca (goodIn_ca (goodIn_r _ [7, 8, 9, 10, 11, 12, 13, 6, 14, 15, 16, 17, 18, 19, 20, 21, 22, 23, 24, 25, 26, 27, 28, 29, 30, 31, 32, 33, 34, 35] (by decide +kernel) (by decide +kernel)) (goodIn_sub (fun _ h => List.mem_cons_of_mem _ (List.mem_append_left _ (List.mem_append_right _ h))) (by decide +kernel))) (goodIn_sub (fun _ h => List.mem_cons_of_mem _ (List.mem_append_right _ h)) (by decide +kernel))
set_option maxRecDepth 20000 in
theorem gL_append_X9_append : GoodIn wsL_append (wsV RL 7 RX9 yX9_append wsX9_append) := goodIn_app (goodIn_of _ (by decide +kernel)) ggL_append_X9_append
theorem dL_append_0 : decode cL_append 0 = .ok (.aload_n 2, 1) := by decide +kernel
theorem dL_append_1 : decode cL_append 1 = .ok (.iconst 0, 1) := by decide +kernel
theorem dL_append_2 : decode cL_append 2 = .ok (.aload_n 0, 1) := by decide +kernel
theorem dL_append_3 : decode cL_append 3 = .ok (.iload_n 1, 1) := by decide +kernel
theorem dL_append_4 : decode cL_append 4 = .ok (.invokevirtual 7, 3) := by decide +kernel
theorem dL_append_7 : decode cL_append 7 = .ok (.i2l, 1) := by decide +kernel
theorem dL_append_8 : decode cL_append 8 = .ok (.lastore, 1) := by decide +kernel
theorem dL_append_9 : decode cL_append 9 = .ok (.goto 9, 3) := by decide +kernel
theorem dL_append_12 : decode cL_append 12 = .ok (.astore_n 3, 1) := by decide +kernel
theorem dL_append_13 : decode cL_append 13 = .ok (.iconst 1, 1) := by decide +kernel
theorem dL_append_14 : decode cL_append 14 = .ok (.ireturn, 1) := by decide +kernel
theorem dL_append_15 : decode cL_append 15 = .ok (.astore_n 3, 1) := by decide +kernel
theorem dL_append_16 : decode cL_append 16 = .ok (.iconst 2, 1) := by decide +kernel
theorem dL_append_17 : decode cL_append 17 = .ok (.ireturn, 1) := by decide +kernel
theorem dL_append_18 : decode cL_append 18 = .ok (.iconst 0, 1) := by decide +kernel
theorem dL_append_19 : decode cL_append 19 = .ok (.ireturn, 1) := by decide +kernel
set_option maxRecDepth 20000 in
theorem ggL_load_X9_load : GoodIn wsL_load wsX9_load := goodIn_ca (goodIn_r _ [6, 7, 8, 9, 10, 11, 12, 13, 14, 15, 16, 17, 18, 19, 20, 21, 22, 23, 24, 25, 26, 27, 28, 29, 30, 31, 32, 33, 34, 35, 36, 37, 38, 39, 40, 41, 42, 43, 44, 45, 46, 47, 48, 49, 50, 51, 52, 53, 54, 55, 56, 57, 58, 59, 60, 61, 62, 63, 64, 65, 66, 67, 68, 69, 70, 71, 72, 73, 74, 75, 76, 77, 78, 79, 80, 81, 82, 83, 84, 85, 86, 87, 88, 89, 90, 91, 92, 93, 94, 95, 96, 97, 98, 99, 100, 101, 102, 103, 104, 105, 106, 107, 108, 109, 110, 111, 112, 113, 114, 115, 116, 117, 118, 119, 120, 121, 122, 123, 124, 125, 126, 127, 128, 129, 130, 131, 132, 133, 134, 135, 136, 137, 138, 139, 140, 141, 142, 143, 144, 145, 146, 147, 148, 149, 150, 151, 152, 153, 154, 155, 156, 157, 158, 159, 160, 161, 162, 163, 164, 165, 166, 167, 168, 169, 170, 171, 172, 173, 174, 175, 176, 177, 178, 179, 180, 181, 182, 183, 184, 185, 186, 187, 188, 189, 190, 191, 192, 193, 194, 195, 196, 197, 198, 199, 200, 201, 202, 203, 204, 205, 206, 207, 208, 209, 210, 211, 212, 213, 214, 215, 216, 217, 218, 219, 220, 221, 222] (by decide +kernel) (by decide +kernel)) (goodIn_sub (fun _ h => List.mem_cons_of_mem _ (List.mem_append_right _ h)) (by decide +kernel))
set_option maxRecDepth 20000 in
theorem gL_load_X9_load : GoodIn wsL_load (wsV RL 17 RX9 yX9_load wsX9_load) := goodIn_app (goodIn_of _ (by decide +kernel)) ggL_load_X9_load
theorem dL_load_0 : decode cL_load 0 = .ok (.aload_n 1, 1) := by decide +kernel
theorem dL_load_1 : decode cL_load 1 = .ok (.iconst 0, 1) := by decide +kernel
theorem dL_load_2 : decode cL_load 2 = .ok (.aload_n 0, 1) := by decide +kernel
theorem dL_load_3 : decode cL_load 3 = .ok (.invokevirtual 17, 3) := by decide +kernel
theorem dL_load_6 : decode cL_load 6 = .ok (.i2l, 1) := by decide +kernel
theorem dL_load_7 : decode cL_load 7 = .ok (.lastore, 1) := by decide +kernel
theorem dL_load_8 : decode cL_load 8 = .ok (.goto 6, 3) := by decide +kernel
theorem dL_load_11 : decode cL_load 11 = .ok (.astore_n 2, 1) := by decide +kernel
theorem dL_load_12 : decode cL_load 12 = .ok (.iconst 1, 1) := by decide +kernel
theorem dL_load_13 : decode cL_load 13 = .ok (.ireturn, 1) := by decide +kernel
theorem dL_load_14 : decode cL_load 14 = .ok (.iconst 0, 1) := by decide +kernel
theorem dL_load_15 : decode cL_load 15 = .ok (.ireturn, 1) := by decide +kernel
set_option maxRecDepth 20000 in
theorem ggL_about_X9_about : GoodIn wsL_about wsX9_about := goodIn_ca (goodIn_r _ [6, 7, 8, 9, 5, 10, 11, 12, 13, 14, 15, 16, 17, 18, 19, 20, 21, 22, 23, 24, 25, 26, 27, 28, 29, 30, 31, 32, 33, 34, 35, 36, 37, 38, 39, 40, 41, 42, 43, 44, 45, 46, 47, 48, 49, 50, 51, 52, 53, 54, 55, 56, 57, 58, 59, 60, 61, 62, 63, 64, 65, 66, 67, 68, 69, 70, 71, 72, 73, 74, 75, 76, 77, 78, 79, 80, 81, 82, 83, 84, 85, 86, 87, 88, 89, 90, 91] (by decide +kernel) (by decide +kernel)) (goodIn_sub (fun _ h => List.mem_cons_of_mem _ (List.mem_append_right _ h)) (by decide +kernel))
set_option maxRecDepth 20000 in
theorem gL_about_X9_about : GoodIn wsL_about (wsV RL 21 RX9 yX9_about wsX9_about) := goodIn_app (goodIn_of _ (by decide +kernel)) ggL_about_X9_about
theorem dL_about_0 : decode cL_about 0 = .ok (.aload_n 2, 1) := by decide +kernel
theorem dL_about_1 : decode cL_about 1 = .ok (.iconst 0, 1) := by decide +kernel
theorem dL_about_2 : decode cL_about 2 = .ok (.aload_n 0, 1) := by decide +kernel
theorem dL_about_3 : decode cL_about 3 = .ok (.iload_n 1, 1) := by decide +kernel
theorem dL_about_4 : decode cL_about 4 = .ok (.invokevirtual 21, 3) := by decide +kernel
theorem dL_about_7 : decode cL_about 7 = .ok (.i2l, 1) := by decide +kernel

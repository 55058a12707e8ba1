set_option maxRecDepth 20000 in
theorem gX5_distanceAfter_X5_offset : GoodIn wsX5_distanceAfter (wsV RX5 158 RX5 yX5_offset wsX5_offset) := goodIn_app (goodIn_of _ (by decide +kernel)) ggX5_distanceAfter_X5_offset
set_option maxRecDepth 20000 in
theorem ggX5_distanceAfter_X1_winsWith : GoodIn wsX5_distanceAfter wsX1_winsWith := goodIn_r _ [17, 18, 19, 20, 27, 28, 29, 30, 31, 32, 33] (by decide +kernel) (by decide +kernel)
set_option maxRecDepth 20000 in
theorem gX5_distanceAfter_X1_winsWith : GoodIn wsX5_distanceAfter (wsV RX5 161 RX1 yX1_winsWith wsX1_winsWith) := goodIn_app (goodIn_of _ (by decide +kernel)) ggX5_distanceAfter_X1_winsWith
theorem dX5_distanceAfter_0 : decode cX5_distanceAfter 0 = .ok (.aload_n 0, 1) := by decide +kernel
theorem dX5_distanceAfter_1 : decode cX5_distanceAfter 1 = .ok (.invokevirtual 158, 3) := by decide +kernel
theorem dX5_distanceAfter_4 : decode cX5_distanceAfter 4 = .ok (.aload_n 0, 1) := by decide +kernel
theorem dX5_distanceAfter_5 : decode cX5_distanceAfter 5 = .ok (.getfield 12, 3) := by decide +kernel
theorem dX5_distanceAfter_8 : decode cX5_distanceAfter 8 = .ok (.iload_n 1, 1) := by decide +kernel
theorem dX5_distanceAfter_9 : decode cX5_distanceAfter 9 = .ok (.iload_n 2, 1) := by decide +kernel
theorem dX5_distanceAfter_10 : decode cX5_distanceAfter 10 = .ok (.invokevirtual 161, 3) := by decide +kernel
theorem dX5_distanceAfter_13 : decode cX5_distanceAfter 13 = .ok (.iadd, 1) := by decide +kernel
theorem dX5_distanceAfter_14 : decode cX5_distanceAfter 14 = .ok (.invokestatic 164, 3) := by decide +kernel
theorem dX5_distanceAfter_17 : decode cX5_distanceAfter 17 = .ok (.ireturn, 1) := by decide +kernel
set_option maxRecDepth 20000 in
theorem ggX5_tell_X5_offset : GoodIn wsX5_tell wsX5_offset := goodIn_r _ [19, 2, 3, 1, 45, 46, 47, 48, 49, 50, 51, 52, 53, 54, 55, 56, 57] (by decide +kernel) (by decide +kernel)
set_option maxRecDepth 20000 in
theorem gX5_tell_X5_offset : GoodIn wsX5_tell (wsV RX5 158 RX5 yX5_offset wsX5_offset) := goodIn_app (goodIn_of _ (by decide +kernel)) ggX5_tell_X5_offset
set_option maxRecDepth 20000 in
theorem ggX5_tell_X6_domain : GoodIn wsX5_tell wsX6_domain := goodIn_r _ [24, 25, 26, 58, 59, 60, 61] (by decide +kernel) (by decide +kernel)
set_option maxRecDepth 20000 in
theorem gX5_tell_X6_domain : GoodIn wsX5_tell (wsV RX5 76 RX6 yX6_domain wsX6_domain) := goodIn_app (goodIn_of _ (by decide +kernel)) ggX5_tell_X6_domain
set_option maxRecDepth 20000 in
theorem ggX5_tell_X5_rings : GoodIn wsX5_tell wsX5_rings := goodIn_r _ [30, 31, 32, 45, 46, 47, 48, 49, 50, 68, 69, 70] (by decide +kernel) (by decide +kernel)
set_option maxRecDepth 20000 in
theorem gX5_tell_X5_rings : GoodIn wsX5_tell (wsV RX5 184 RX5 yX5_rings wsX5_rings) := goodIn_app (goodIn_of _ (by decide +kernel)) ggX5_tell_X5_rings
set_option maxRecDepth 20000 in
theorem ggX5_tell_X5_alarmsWaiting : GoodIn wsX5_tell wsX5_alarmsWaiting := goodIn_r _ [36, 31, 37, 38, 39, 40, 41, 42, 43, 44, 45, 46, 47, 48, 49, 50, 68, 69, 70] (by decide +kernel) (by decide +kernel)
set_option maxRecDepth 20000 in
theorem gX5_tell_X5_alarmsWaiting : GoodIn wsX5_tell (wsV RX5 186 RX5 yX5_alarmsWaiting wsX5_alarmsWaiting) := goodIn_app (goodIn_of _ (by decide +kernel)) ggX5_tell_X5_alarmsWaiting
theorem dX5_tell_0 : decode cX5_tell 0 = .ok (.iload_n 1, 1) := by decide +kernel
theorem dX5_tell_1 : decode cX5_tell 1 = .ok (.tableswitch 179 0 13 #[71, 76, 84, 92, 100, 108, 113, 129, 137, 145, 153, 161, 169, 174], 71) := by decide +kernel
theorem dX5_tell_72 : decode cX5_tell 72 = .ok (.aload_n 0, 1) := by decide +kernel
theorem dX5_tell_73 : decode cX5_tell 73 = .ok (.getfield 46, 3) := by decide +kernel
theorem dX5_tell_76 : decode cX5_tell 76 = .ok (.ireturn, 1) := by decide +kernel
theorem dX5_tell_77 : decode cX5_tell 77 = .ok (.aload_n 0, 1) := by decide +kernel
theorem dX5_tell_78 : decode cX5_tell 78 = .ok (.getfield 12, 3) := by decide +kernel
theorem dX5_tell_81 : decode cX5_tell 81 = .ok (.getfield 80, 3) := by decide +kernel
theorem dX5_tell_84 : decode cX5_tell 84 = .ok (.ireturn, 1) := by decide +kernel
theorem dX5_tell_85 : decode cX5_tell 85 = .ok (.aload_n 0, 1) := by decide +kernel
theorem dX5_tell_86 : decode cX5_tell 86 = .ok (.getfield 12, 3) := by decide +kernel
theorem dX5_tell_89 : decode cX5_tell 89 = .ok (.getfield 169, 3) := by decide +kernel
theorem dX5_tell_92 : decode cX5_tell 92 = .ok (.ireturn, 1) := by decide +kernel
theorem dX5_tell_93 : decode cX5_tell 93 = .ok (.aload_n 0, 1) := by decide +kernel
theorem dX5_tell_94 : decode cX5_tell 94 = .ok (.getfield 12, 3) := by decide +kernel
theorem dX5_tell_97 : decode cX5_tell 97 = .ok (.getfield 172, 3) := by decide +kernel
theorem dX5_tell_100 : decode cX5_tell 100 = .ok (.ireturn, 1) := by decide +kernel
theorem dX5_tell_101 : decode cX5_tell 101 = .ok (.aload_n 0, 1) := by decide +kernel
theorem dX5_tell_102 : decode cX5_tell 102 = .ok (.getfield 12, 3) := by decide +kernel
theorem dX5_tell_105 : decode cX5_tell 105 = .ok (.getfield 175, 3) := by decide +kernel
theorem dX5_tell_108 : decode cX5_tell 108 = .ok (.ireturn, 1) := by decide +kernel
theorem dX5_tell_109 : decode cX5_tell 109 = .ok (.aload_n 0, 1) := by decide +kernel
theorem dX5_tell_110 : decode cX5_tell 110 = .ok (.invokevirtual 158, 3) := by decide +kernel
theorem dX5_tell_113 : decode cX5_tell 113 = .ok (.ireturn, 1) := by decide +kernel
theorem dX5_tell_114 : decode cX5_tell 114 = .ok (.aload_n 0, 1) := by decide +kernel
theorem dX5_tell_115 : decode cX5_tell 115 = .ok (.getfield 12, 3) := by decide +kernel
theorem dX5_tell_118 : decode cX5_tell 118 = .ok (.getfield 178, 3) := by decide +kernel
theorem dX5_tell_121 : decode cX5_tell 121 = .ok (.ifCond .eq 7, 3) := by decide +kernel
theorem dX5_tell_124 : decode cX5_tell 124 = .ok (.iconst 1, 1) := by decide +kernel
theorem dX5_tell_125 : decode cX5_tell 125 = .ok (.goto 4, 3) := by decide +kernel
theorem dX5_tell_128 : decode cX5_tell 128 = .ok (.iconst 0, 1) := by decide +kernel
theorem dX5_tell_129 : decode cX5_tell 129 = .ok (.ireturn, 1) := by decide +kernel
theorem dX5_tell_130 : decode cX5_tell 130 = .ok (.aload_n 0, 1) := by decide +kernel
theorem dX5_tell_131 : decode cX5_tell 131 = .ok (.getfield 21, 3) := by decide +kernel
theorem dX5_tell_134 : decode cX5_tell 134 = .ok (.getfield 107, 3) := by decide +kernel
theorem dX5_tell_137 : decode cX5_tell 137 = .ok (.ireturn, 1) := by decide +kernel
theorem dX5_tell_138 : decode cX5_tell 138 = .ok (.aload_n 0, 1) := by decide +kernel
theorem dX5_tell_139 : decode cX5_tell 139 = .ok (.getfield 21, 3) := by decide +kernel
theorem dX5_tell_142 : decode cX5_tell 142 = .ok (.getfield 110, 3) := by decide +kernel
theorem dX5_tell_145 : decode cX5_tell 145 = .ok (.ireturn, 1) := by decide +kernel
theorem dX5_tell_146 : decode cX5_tell 146 = .ok (.aload_n 0, 1) := by decide +kernel
theorem dX5_tell_147 : decode cX5_tell 147 = .ok (.getfield 21, 3) := by decide +kernel
theorem dX5_tell_150 : decode cX5_tell 150 = .ok (.invokevirtual 76, 3) := by decide +kernel
theorem dX5_tell_153 : decode cX5_tell 153 = .ok (.ireturn, 1) := by decide +kernel
theorem dX5_tell_154 : decode cX5_tell 154 = .ok (.aload_n 0, 1) := by decide +kernel
theorem dX5_tell_155 : decode cX5_tell 155 = .ok (.getfield 28, 3) := by decide +kernel
theorem dX5_tell_158 : decode cX5_tell 158 = .ok (.getfield 123, 3) := by decide +kernel
theorem dX5_tell_161 : decode cX5_tell 161 = .ok (.ireturn, 1) := by decide +kernel
theorem dX5_tell_162 : decode cX5_tell 162 = .ok (.aload_n 0, 1) := by decide +kernel
theorem dX5_tell_163 : decode cX5_tell 163 = .ok (.getfield 28, 3) := by decide +kernel
theorem dX5_tell_166 : decode cX5_tell 166 = .ok (.getfield 181, 3) := by decide +kernel
theorem dX5_tell_169 : decode cX5_tell 169 = .ok (.ireturn, 1) := by decide +kernel
theorem dX5_tell_170 : decode cX5_tell 170 = .ok (.aload_n 0, 1) := by decide +kernel
theorem dX5_tell_171 : decode cX5_tell 171 = .ok (.invokevirtual 184, 3) := by decide +kernel
theorem dX5_tell_174 : decode cX5_tell 174 = .ok (.ireturn, 1) := by decide +kernel
theorem dX5_tell_175 : decode cX5_tell 175 = .ok (.aload_n 0, 1) := by decide +kernel
theorem dX5_tell_176 : decode cX5_tell 176 = .ok (.invokevirtual 186, 3) := by decide +kernel
theorem dX5_tell_179 : decode cX5_tell 179 = .ok (.ireturn, 1) := by decide +kernel
theorem dX5_tell_180 : decode cX5_tell 180 = .ok (.aload_n 0, 1) := by decide +kernel
theorem dX5_tell_181 : decode cX5_tell 181 = .ok (.getfield 21, 3) := by decide +kernel
theorem dX5_tell_184 : decode cX5_tell 184 = .ok (.getfield 119, 3) := by decide +kernel
theorem dX5_tell_187 : decode cX5_tell 187 = .ok (.ireturn, 1) := by decide +kernel
theorem dX6_init_0 : decode cX6_init 0 = .ok (.aload_n 0, 1) := by decide +kernel
theorem dX6_init_1 : decode cX6_init 1 = .ok (.invokespecial 3, 3) := by decide +kernel
theorem dX6_init_4 : decode cX6_init 4 = .ok (.aload_n 0, 1) := by decide +kernel
theorem dX6_init_5 : decode cX6_init 5 = .ok (.iconst 4, 1) := by decide +kernel
theorem dX6_init_6 : decode cX6_init 6 = .ok (.newarray .int, 2) := by decide +kernel
theorem dX6_init_8 : decode cX6_init 8 = .ok (.putfield 9, 3) := by decide +kernel
theorem dX6_init_11 : decode cX6_init 11 = .ok (.return_, 1) := by decide +kernel
theorem dX6_reset_0 : decode cX6_reset 0 = .ok (.iconst 0, 1) := by decide +kernel
theorem dX6_reset_1 : decode cX6_reset 1 = .ok (.istore_n 1, 1) := by decide +kernel
theorem dX6_reset_2 : decode cX6_reset 2 = .ok (.iload_n 1, 1) := by decide +kernel
theorem dX6_reset_3 : decode cX6_reset 3 = .ok (.aload_n 0, 1) := by decide +kernel
theorem dX6_reset_4 : decode cX6_reset 4 = .ok (.getfield 9, 3) := by decide +kernel
theorem dX6_reset_7 : decode cX6_reset 7 = .ok (.arraylength, 1) := by decide +kernel
theorem dX6_reset_8 : decode cX6_reset 8 = .ok (.if_icmp .ge 16, 3) := by decide +kernel
theorem dX6_reset_11 : decode cX6_reset 11 = .ok (.aload_n 0, 1) := by decide +kernel
theorem dX6_reset_12 : decode cX6_reset 12 = .ok (.getfield 9, 3) := by decide +kernel
theorem dX6_reset_15 : decode cX6_reset 15 = .ok (.iload_n 1, 1) := by decide +kernel
theorem dX6_reset_16 : decode cX6_reset 16 = .ok (.iconst 0, 1) := by decide +kernel
theorem dX6_reset_17 : decode cX6_reset 17 = .ok (.iastore, 1) := by decide +kernel
theorem dX6_reset_18 : decode cX6_reset 18 = .ok (.iinc 1 1, 3) := by decide +kernel
theorem dX6_reset_21 : decode cX6_reset 21 = .ok (.goto (-19), 3) := by decide +kernel
theorem dX6_reset_24 : decode cX6_reset 24 = .ok (.aload_n 0, 1) := by decide +kernel
theorem dX6_reset_25 : decode cX6_reset 25 = .ok (.bipush 9, 2) := by decide +kernel
theorem dX6_reset_27 : decode cX6_reset 27 = .ok (.putfield 15, 3) := by decide +kernel
theorem dX6_reset_30 : decode cX6_reset 30 = .ok (.aload_n 0, 1) := by decide +kernel
theorem dX6_reset_31 : decode cX6_reset 31 = .ok (.sipush 1000, 3) := by decide +kernel
theorem dX6_reset_34 : decode cX6_reset 34 = .ok (.putfield 19, 3) := by decide +kernel
theorem dX6_reset_37 : decode cX6_reset 37 = .ok (.aload_n 0, 1) := by decide +kernel
theorem dX6_reset_38 : decode cX6_reset 38 = .ok (.iconst 0, 1) := by decide +kernel
theorem dX6_reset_39 : decode cX6_reset 39 = .ok (.putfield 22, 3) := by decide +kernel
theorem dX6_reset_42 : decode cX6_reset 42 = .ok (.return_, 1) := by decide +kernel
theorem dX6_copyFrom_0 : decode cX6_copyFrom 0 = .ok (.aload_n 1, 1) := by decide +kernel
theorem dX6_copyFrom_1 : decode cX6_copyFrom 1 = .ok (.getfield 9, 3) := by decide +kernel
theorem dX6_copyFrom_4 : decode cX6_copyFrom 4 = .ok (.iconst 0, 1) := by decide +kernel
theorem dX6_copyFrom_5 : decode cX6_copyFrom 5 = .ok (.aload_n 0, 1) := by decide +kernel
theorem dX6_copyFrom_6 : decode cX6_copyFrom 6 = .ok (.getfield 9, 3) := by decide +kernel
theorem dX6_copyFrom_9 : decode cX6_copyFrom 9 = .ok (.iconst 0, 1) := by decide +kernel
theorem dX6_copyFrom_10 : decode cX6_copyFrom 10 = .ok (.iconst 4, 1) := by decide +kernel
theorem dX6_copyFrom_11 : decode cX6_copyFrom 11 = .ok (.invokestatic 25, 3) := by decide +kernel
theorem dX6_copyFrom_14 : decode cX6_copyFrom 14 = .ok (.aload_n 0, 1) := by decide +kernel
theorem dX6_copyFrom_15 : decode cX6_copyFrom 15 = .ok (.aload_n 1, 1) := by decide +kernel
theorem dX6_copyFrom_16 : decode cX6_copyFrom 16 = .ok (.getfield 15, 3) := by decide +kernel
theorem dX6_copyFrom_19 : decode cX6_copyFrom 19 = .ok (.putfield 15, 3) := by decide +kernel
theorem dX6_copyFrom_22 : decode cX6_copyFrom 22 = .ok (.aload_n 0, 1) := by decide +kernel
theorem dX6_copyFrom_23 : decode cX6_copyFrom 23 = .ok (.aload_n 1, 1) := by decide +kernel
theorem dX6_copyFrom_24 : decode cX6_copyFrom 24 = .ok (.getfield 19, 3) := by decide +kernel
theorem dX6_copyFrom_27 : decode cX6_copyFrom 27 = .ok (.putfield 19, 3) := by decide +kernel
theorem dX6_copyFrom_30 : decode cX6_copyFrom 30 = .ok (.aload_n 0, 1) := by decide +kernel
theorem dX6_copyFrom_31 : decode cX6_copyFrom 31 = .ok (.aload_n 1, 1) := by decide +kernel
theorem dX6_copyFrom_32 : decode cX6_copyFrom 32 = .ok (.getfield 22, 3) := by decide +kernel
theorem dX6_copyFrom_35 : decode cX6_copyFrom 35 = .ok (.putfield 22, 3) := by decide +kernel
theorem dX6_copyFrom_38 : decode cX6_copyFrom 38 = .ok (.return_, 1) := by decide +kernel
theorem dX6_domain_0 : decode cX6_domain 0 = .ok (.aload_n 0, 1) := by decide +kernel
theorem dX6_domain_1 : decode cX6_domain 1 = .ok (.getfield 15, 3) := by decide +kernel
theorem dX6_domain_4 : decode cX6_domain 4 = .ok (.bipush 6, 2) := by decide +kernel
theorem dX6_domain_6 : decode cX6_domain 6 = .ok (.if_icmp .lt 5, 3) := by decide +kernel
theorem dX6_domain_9 : decode cX6_domain 9 = .ok (.iconst 0, 1) := by decide +kernel
theorem dX6_domain_10 : decode cX6_domain 10 = .ok (.ireturn, 1) := by decide +kernel
theorem dX6_domain_11 : decode cX6_domain 11 = .ok (.aload_n 0, 1) := by decide +kernel
theorem dX6_domain_12 : decode cX6_domain 12 = .ok (.getfield 19, 3) := by decide +kernel
theorem dX6_domain_15 : decode cX6_domain 15 = .ok (.ifCond .ne 5, 3) := by decide +kernel
theorem dX6_domain_18 : decode cX6_domain 18 = .ok (.iconst 3, 1) := by decide +kernel
theorem dX6_domain_19 : decode cX6_domain 19 = .ok (.ireturn, 1) := by decide +kernel
theorem dX6_domain_20 : decode cX6_domain 20 = .ok (.aload_n 0, 1) := by decide +kernel
theorem dX6_domain_21 : decode cX6_domain 21 = .ok (.getfield 15, 3) := by decide +kernel
theorem dX6_domain_24 : decode cX6_domain 24 = .ok (.iconst 3, 1) := by decide +kernel
theorem dX6_domain_25 : decode cX6_domain 25 = .ok (.if_icmp .lt 7, 3) := by decide +kernel
theorem dX6_domain_28 : decode cX6_domain 28 = .ok (.iconst 1, 1) := by decide +kernel
theorem dX6_domain_29 : decode cX6_domain 29 = .ok (.goto 4, 3) := by decide +kernel
theorem dX6_domain_32 : decode cX6_domain 32 = .ok (.iconst 2, 1) := by decide +kernel
theorem dX6_domain_33 : decode cX6_domain 33 = .ok (.ireturn, 1) := by decide +kernel
set_option maxRecDepth 20000 in
theorem ggX6_spendMinute_X6_domain : GoodIn wsX6_spendMinute wsX6_domain := goodIn_r _ [7, 8, 2, 9, 10, 11, 12] (by decide +kernel) (by decide +kernel)
set_option maxRecDepth 20000 in
theorem gX6_spendMinute_X6_domain : GoodIn wsX6_spendMinute (wsV RX6 31 RX6 yX6_domain wsX6_domain) := goodIn_app (goodIn_of _ (by decide +kernel)) ggX6_spendMinute_X6_domain
theorem dX6_spendMinute_0 : decode cX6_spendMinute 0 = .ok (.aload_n 0, 1) := by decide +kernel
theorem dX6_spendMinute_1 : decode cX6_spendMinute 1 = .ok (.invokevirtual 31, 3) := by decide +kernel
theorem dX6_spendMinute_4 : decode cX6_spendMinute 4 = .ok (.istore_n 1, 1) := by decide +kernel
theorem dX6_spendMinute_5 : decode cX6_spendMinute 5 = .ok (.aload_n 0, 1) := by decide +kernel
theorem dX6_spendMinute_6 : decode cX6_spendMinute 6 = .ok (.getfield 9, 3) := by decide +kernel
theorem dX6_spendMinute_9 : decode cX6_spendMinute 9 = .ok (.iload_n 1, 1) := by decide +kernel
theorem dX6_spendMinute_10 : decode cX6_spendMinute 10 = .ok (.dup2, 1) := by decide +kernel
theorem dX6_spendMinute_11 : decode cX6_spendMinute 11 = .ok (.iaload, 1) := by decide +kernel
theorem dX6_spendMinute_12 : decode cX6_spendMinute 12 = .ok (.iconst 1, 1) := by decide +kernel
theorem dX6_spendMinute_13 : decode cX6_spendMinute 13 = .ok (.iadd, 1) := by decide +kernel
theorem dX6_spendMinute_14 : decode cX6_spendMinute 14 = .ok (.iastore, 1) := by decide +kernel
theorem dX6_spendMinute_15 : decode cX6_spendMinute 15 = .ok (.iload_n 1, 1) := by decide +kernel
theorem dX6_spendMinute_16 : decode cX6_spendMinute 16 = .ok (.iconst 1, 1) := by decide +kernel
theorem dX6_spendMinute_17 : decode cX6_spendMinute 17 = .ok (.if_icmp .eq 8, 3) := by decide +kernel
theorem dX6_spendMinute_20 : decode cX6_spendMinute 20 = .ok (.iload_n 1, 1) := by decide +kernel
theorem dX6_spendMinute_21 : decode cX6_spendMinute 21 = .ok (.iconst 2, 1) := by decide +kernel
theorem dX6_spendMinute_22 : decode cX6_spendMinute 22 = .ok (.if_icmp .ne 13, 3) := by decide +kernel
theorem dX6_spendMinute_25 : decode cX6_spendMinute 25 = .ok (.aload_n 0, 1) := by decide +kernel
theorem dX6_spendMinute_26 : decode cX6_spendMinute 26 = .ok (.dup, 1) := by decide +kernel
theorem dX6_spendMinute_27 : decode cX6_spendMinute 27 = .ok (.getfield 19, 3) := by decide +kernel
theorem dX6_spendMinute_30 : decode cX6_spendMinute 30 = .ok (.iconst 1, 1) := by decide +kernel
theorem dX6_spendMinute_31 : decode cX6_spendMinute 31 = .ok (.isub, 1) := by decide +kernel
theorem dX6_spendMinute_32 : decode cX6_spendMinute 32 = .ok (.putfield 19, 3) := by decide +kernel
theorem dX6_spendMinute_35 : decode cX6_spendMinute 35 = .ok (.return_, 1) := by decide +kernel
set_option maxRecDepth 20000 in
theorem ggX6_minutesLeft_X6_domain : GoodIn wsX6_minutesLeft wsX6_domain := goodIn_r _ [7, 8, 2, 9, 10, 11, 12] (by decide +kernel) (by decide +kernel)
set_option maxRecDepth 20000 in
theorem gX6_minutesLeft_X6_domain : GoodIn wsX6_minutesLeft (wsV RX6 31 RX6 yX6_domain wsX6_domain) := goodIn_app (goodIn_of _ (by decide +kernel)) ggX6_minutesLeft_X6_domain
theorem dX6_minutesLeft_0 : decode cX6_minutesLeft 0 = .ok (.aload_n 0, 1) := by decide +kernel
theorem dX6_minutesLeft_1 : decode cX6_minutesLeft 1 = .ok (.invokevirtual 31, 3) := by decide +kernel
theorem dX6_minutesLeft_4 : decode cX6_minutesLeft 4 = .ok (.ifCond .ne 8, 3) := by decide +kernel
theorem dX6_minutesLeft_7 : decode cX6_minutesLeft 7 = .ok (.ldc 35, 2) := by decide +kernel
theorem dX6_minutesLeft_9 : decode cX6_minutesLeft 9 = .ok (.goto 7, 3) := by decide +kernel
theorem dX6_minutesLeft_12 : decode cX6_minutesLeft 12 = .ok (.aload_n 0, 1) := by decide +kernel
theorem dX6_minutesLeft_13 : decode cX6_minutesLeft 13 = .ok (.getfield 19, 3) := by decide +kernel
theorem dX6_minutesLeft_16 : decode cX6_minutesLeft 16 = .ok (.ireturn, 1) := by decide +kernel
theorem dX7_init_0 : decode cX7_init 0 = .ok (.aload_n 0, 1) := by decide +kernel
theorem dX7_init_1 : decode cX7_init 1 = .ok (.invokespecial 3, 3) := by decide +kernel
theorem dX7_init_4 : decode cX7_init 4 = .ok (.aload_n 0, 1) := by decide +kernel
theorem dX7_init_5 : decode cX7_init 5 = .ok (.iconst 3, 1) := by decide +kernel
theorem dX7_init_6 : decode cX7_init 6 = .ok (.newarray .boolean, 2) := by decide +kernel
theorem dX7_init_8 : decode cX7_init 8 = .ok (.putfield 9, 3) := by decide +kernel
theorem dX7_init_11 : decode cX7_init 11 = .ok (.aload_n 0, 1) := by decide +kernel
theorem dX7_init_12 : decode cX7_init 12 = .ok (.bipush 6, 2) := by decide +kernel
theorem dX7_init_14 : decode cX7_init 14 = .ok (.newarray .int, 2) := by decide +kernel
theorem dX7_init_16 : decode cX7_init 16 = .ok (.putfield 15, 3) := by decide +kernel
theorem dX7_init_19 : decode cX7_init 19 = .ok (.aload_n 0, 1) := by decide +kernel
theorem dX7_init_20 : decode cX7_init 20 = .ok (.bipush 6, 2) := by decide +kernel
theorem dX7_init_22 : decode cX7_init 22 = .ok (.newarray .int, 2) := by decide +kernel
theorem dX7_init_24 : decode cX7_init 24 = .ok (.putfield 19, 3) := by decide +kernel
theorem dX7_init_27 : decode cX7_init 27 = .ok (.aload_n 0, 1) := by decide +kernel
theorem dX7_init_28 : decode cX7_init 28 = .ok (.bipush 6, 2) := by decide +kernel
theorem dX7_init_30 : decode cX7_init 30 = .ok (.newarray .int, 2) := by decide +kernel
theorem dX7_init_32 : decode cX7_init 32 = .ok (.putfield 22, 3) := by decide +kernel
theorem dX7_init_35 : decode cX7_init 35 = .ok (.return_, 1) := by decide +kernel
theorem dX7_reset_0 : decode cX7_reset 0 = .ok (.iconst 0, 1) := by decide +kernel
theorem dX7_reset_1 : decode cX7_reset 1 = .ok (.istore_n 1, 1) := by decide +kernel
theorem dX7_reset_2 : decode cX7_reset 2 = .ok (.iload_n 1, 1) := by decide +kernel
theorem dX7_reset_3 : decode cX7_reset 3 = .ok (.aload_n 0, 1) := by decide +kernel
theorem dX7_reset_4 : decode cX7_reset 4 = .ok (.getfield 9, 3) := by decide +kernel
theorem dX7_reset_7 : decode cX7_reset 7 = .ok (.arraylength, 1) := by decide +kernel
theorem dX7_reset_8 : decode cX7_reset 8 = .ok (.if_icmp .ge 16, 3) := by decide +kernel
theorem dX7_reset_11 : decode cX7_reset 11 = .ok (.aload_n 0, 1) := by decide +kernel
theorem dX7_reset_12 : decode cX7_reset 12 = .ok (.getfield 9, 3) := by decide +kernel
theorem dX7_reset_15 : decode cX7_reset 15 = .ok (.iload_n 1, 1) := by decide +kernel
theorem dX7_reset_16 : decode cX7_reset 16 = .ok (.iconst 0, 1) := by decide +kernel
theorem dX7_reset_17 : decode cX7_reset 17 = .ok (.bastore, 1) := by decide +kernel
theorem dX7_reset_18 : decode cX7_reset 18 = .ok (.iinc 1 1, 3) := by decide +kernel
theorem dX7_reset_21 : decode cX7_reset 21 = .ok (.goto (-19), 3) := by decide +kernel
theorem dX7_reset_24 : decode cX7_reset 24 = .ok (.aload_n 0, 1) := by decide +kernel
theorem dX7_reset_25 : decode cX7_reset 25 = .ok (.iconst 0, 1) := by decide +kernel
theorem dX7_reset_26 : decode cX7_reset 26 = .ok (.putfield 25, 3) := by decide +kernel
theorem dX7_reset_29 : decode cX7_reset 29 = .ok (.aload_n 0, 1) := by decide +kernel
theorem dX7_reset_30 : decode cX7_reset 30 = .ok (.iconst 0, 1) := by decide +kernel
theorem dX7_reset_31 : decode cX7_reset 31 = .ok (.putfield 29, 3) := by decide +kernel
theorem dX7_reset_34 : decode cX7_reset 34 = .ok (.return_, 1) := by decide +kernel
theorem dX7_copyFrom_0 : decode cX7_copyFrom 0 = .ok (.aload_n 1, 1) := by decide +kernel
theorem dX7_copyFrom_1 : decode cX7_copyFrom 1 = .ok (.getfield 9, 3) := by decide +kernel
theorem dX7_copyFrom_4 : decode cX7_copyFrom 4 = .ok (.iconst 0, 1) := by decide +kernel
theorem dX7_copyFrom_5 : decode cX7_copyFrom 5 = .ok (.aload_n 0, 1) := by decide +kernel
theorem dX7_copyFrom_6 : decode cX7_copyFrom 6 = .ok (.getfield 9, 3) := by decide +kernel
theorem dX7_copyFrom_9 : decode cX7_copyFrom 9 = .ok (.iconst 0, 1) := by decide +kernel
theorem dX7_copyFrom_10 : decode cX7_copyFrom 10 = .ok (.iconst 3, 1) := by decide +kernel
theorem dX7_copyFrom_11 : decode cX7_copyFrom 11 = .ok (.invokestatic 32, 3) := by decide +kernel
theorem dX7_copyFrom_14 : decode cX7_copyFrom 14 = .ok (.aload_n 1, 1) := by decide +kernel
theorem dX7_copyFrom_15 : decode cX7_copyFrom 15 = .ok (.getfield 15, 3) := by decide +kernel
theorem dX7_copyFrom_18 : decode cX7_copyFrom 18 = .ok (.iconst 0, 1) := by decide +kernel
theorem dX7_copyFrom_19 : decode cX7_copyFrom 19 = .ok (.aload_n 0, 1) := by decide +kernel
theorem dX7_copyFrom_20 : decode cX7_copyFrom 20 = .ok (.getfield 15, 3) := by decide +kernel
theorem dX7_copyFrom_23 : decode cX7_copyFrom 23 = .ok (.iconst 0, 1) := by decide +kernel
theorem dX7_copyFrom_24 : decode cX7_copyFrom 24 = .ok (.bipush 6, 2) := by decide +kernel
theorem dX7_copyFrom_26 : decode cX7_copyFrom 26 = .ok (.invokestatic 32, 3) := by decide +kernel
theorem dX7_copyFrom_29 : decode cX7_copyFrom 29 = .ok (.aload_n 1, 1) := by decide +kernel
theorem dX7_copyFrom_30 : decode cX7_copyFrom 30 = .ok (.getfield 19, 3) := by decide +kernel
theorem dX7_copyFrom_33 : decode cX7_copyFrom 33 = .ok (.iconst 0, 1) := by decide +kernel
theorem dX7_copyFrom_34 : decode cX7_copyFrom 34 = .ok (.aload_n 0, 1) := by decide +kernel
theorem dX7_copyFrom_35 : decode cX7_copyFrom 35 = .ok (.getfield 19, 3) := by decide +kernel
theorem dX7_copyFrom_38 : decode cX7_copyFrom 38 = .ok (.iconst 0, 1) := by decide +kernel
theorem dX7_copyFrom_39 : decode cX7_copyFrom 39 = .ok (.bipush 6, 2) := by decide +kernel
theorem dX7_copyFrom_41 : decode cX7_copyFrom 41 = .ok (.invokestatic 32, 3) := by decide +kernel
theorem dX7_copyFrom_44 : decode cX7_copyFrom 44 = .ok (.aload_n 1, 1) := by decide +kernel
theorem dX7_copyFrom_45 : decode cX7_copyFrom 45 = .ok (.getfield 22, 3) := by decide +kernel
theorem dX7_copyFrom_48 : decode cX7_copyFrom 48 = .ok (.iconst 0, 1) := by decide +kernel
theorem dX7_copyFrom_49 : decode cX7_copyFrom 49 = .ok (.aload_n 0, 1) := by decide +kernel
theorem dX7_copyFrom_50 : decode cX7_copyFrom 50 = .ok (.getfield 22, 3) := by decide +kernel
theorem dX7_copyFrom_53 : decode cX7_copyFrom 53 = .ok (.iconst 0, 1) := by decide +kernel
theorem dX7_copyFrom_54 : decode cX7_copyFrom 54 = .ok (.bipush 6, 2) := by decide +kernel
theorem dX7_copyFrom_56 : decode cX7_copyFrom 56 = .ok (.invokestatic 32, 3) := by decide +kernel
theorem dX7_copyFrom_59 : decode cX7_copyFrom 59 = .ok (.aload_n 0, 1) := by decide +kernel
theorem dX7_copyFrom_60 : decode cX7_copyFrom 60 = .ok (.aload_n 1, 1) := by decide +kernel
theorem dX7_copyFrom_61 : decode cX7_copyFrom 61 = .ok (.getfield 25, 3) := by decide +kernel
theorem dX7_copyFrom_64 : decode cX7_copyFrom 64 = .ok (.putfield 25, 3) := by decide +kernel
theorem dX7_copyFrom_67 : decode cX7_copyFrom 67 = .ok (.aload_n 0, 1) := by decide +kernel
theorem dX7_copyFrom_68 : decode cX7_copyFrom 68 = .ok (.aload_n 1, 1) := by decide +kernel
theorem dX7_copyFrom_69 : decode cX7_copyFrom 69 = .ok (.getfield 29, 3) := by decide +kernel
theorem dX7_copyFrom_72 : decode cX7_copyFrom 72 = .ok (.putfield 29, 3) := by decide +kernel
theorem dX7_copyFrom_75 : decode cX7_copyFrom 75 = .ok (.return_, 1) := by decide +kernel
theorem dX7_guardedPins_0 : decode cX7_guardedPins 0 = .ok (.iconst 0, 1) := by decide +kernel
theorem dX7_guardedPins_1 : decode cX7_guardedPins 1 = .ok (.istore_n 1, 1) := by decide +kernel
theorem dX7_guardedPins_2 : decode cX7_guardedPins 2 = .ok (.iconst 0, 1) := by decide +kernel
theorem dX7_guardedPins_3 : decode cX7_guardedPins 3 = .ok (.istore_n 2, 1) := by decide +kernel
theorem dX7_guardedPins_4 : decode cX7_guardedPins 4 = .ok (.iload_n 2, 1) := by decide +kernel
theorem dX7_guardedPins_5 : decode cX7_guardedPins 5 = .ok (.aload_n 0, 1) := by decide +kernel
theorem dX7_guardedPins_6 : decode cX7_guardedPins 6 = .ok (.getfield 9, 3) := by decide +kernel
theorem dX7_guardedPins_9 : decode cX7_guardedPins 9 = .ok (.arraylength, 1) := by decide +kernel
theorem dX7_guardedPins_10 : decode cX7_guardedPins 10 = .ok (.if_icmp .ge 21, 3) := by decide +kernel
theorem dX7_guardedPins_13 : decode cX7_guardedPins 13 = .ok (.aload_n 0, 1) := by decide +kernel
theorem dX7_guardedPins_14 : decode cX7_guardedPins 14 = .ok (.getfield 9, 3) := by decide +kernel
theorem dX7_guardedPins_17 : decode cX7_guardedPins 17 = .ok (.iload_n 2, 1) := by decide +kernel
theorem dX7_guardedPins_18 : decode cX7_guardedPins 18 = .ok (.baload, 1) := by decide +kernel
theorem dX7_guardedPins_19 : decode cX7_guardedPins 19 = .ok (.ifCond .eq 6, 3) := by decide +kernel
theorem dX7_guardedPins_22 : decode cX7_guardedPins 22 = .ok (.iinc 1 1, 3) := by decide +kernel
theorem dX7_guardedPins_25 : decode cX7_guardedPins 25 = .ok (.iinc 2 1, 3) := by decide +kernel
theorem dX7_guardedPins_28 : decode cX7_guardedPins 28 = .ok (.goto (-24), 3) := by decide +kernel
theorem dX7_guardedPins_31 : decode cX7_guardedPins 31 = .ok (.iload_n 1, 1) := by decide +kernel
theorem dX7_guardedPins_32 : decode cX7_guardedPins 32 = .ok (.ireturn, 1) := by decide +kernel
theorem dX7_add_0 : decode cX7_add 0 = .ok (.aload_n 0, 1) := by decide +kernel
theorem dX7_add_1 : decode cX7_add 1 = .ok (.dup, 1) := by decide +kernel
theorem dX7_add_2 : decode cX7_add 2 = .ok (.getfield 29, 3) := by decide +kernel
theorem dX7_add_5 : decode cX7_add 5 = .ok (.iconst 1, 1) := by decide +kernel
theorem dX7_add_6 : decode cX7_add 6 = .ok (.iadd, 1) := by decide +kernel
theorem dX7_add_7 : decode cX7_add 7 = .ok (.putfield 29, 3) := by decide +kernel
theorem dX7_add_10 : decode cX7_add 10 = .ok (.aload_n 0, 1) := by decide +kernel
theorem dX7_add_11 : decode cX7_add 11 = .ok (.getfield 25, 3) := by decide +kernel
theorem dX7_add_14 : decode cX7_add 14 = .ok (.bipush 6, 2) := by decide +kernel
theorem dX7_add_16 : decode cX7_add 16 = .ok (.if_icmp .lt 4, 3) := by decide +kernel
theorem dX7_add_19 : decode cX7_add 19 = .ok (.return_, 1) := by decide +kernel
theorem dX7_add_20 : decode cX7_add 20 = .ok (.aload_n 0, 1) := by decide +kernel
theorem dX7_add_21 : decode cX7_add 21 = .ok (.getfield 15, 3) := by decide +kernel
theorem dX7_add_24 : decode cX7_add 24 = .ok (.aload_n 0, 1) := by decide +kernel
theorem dX7_add_25 : decode cX7_add 25 = .ok (.getfield 25, 3) := by decide +kernel
theorem dX7_add_28 : decode cX7_add 28 = .ok (.iload_n 1, 1) := by decide +kernel
theorem dX7_add_29 : decode cX7_add 29 = .ok (.iastore, 1) := by decide +kernel
theorem dX7_add_30 : decode cX7_add 30 = .ok (.aload_n 0, 1) := by decide +kernel
theorem dX7_add_31 : decode cX7_add 31 = .ok (.getfield 19, 3) := by decide +kernel
theorem dX7_add_34 : decode cX7_add 34 = .ok (.aload_n 0, 1) := by decide +kernel
theorem dX7_add_35 : decode cX7_add 35 = .ok (.getfield 25, 3) := by decide +kernel
theorem dX7_add_38 : decode cX7_add 38 = .ok (.iload_n 2, 1) := by decide +kernel
theorem dX7_add_39 : decode cX7_add 39 = .ok (.iastore, 1) := by decide +kernel
theorem dX7_add_40 : decode cX7_add 40 = .ok (.aload_n 0, 1) := by decide +kernel
theorem dX7_add_41 : decode cX7_add 41 = .ok (.getfield 22, 3) := by decide +kernel
theorem dX7_add_44 : decode cX7_add 44 = .ok (.aload_n 0, 1) := by decide +kernel
theorem dX7_add_45 : decode cX7_add 45 = .ok (.getfield 25, 3) := by decide +kernel
theorem dX7_add_48 : decode cX7_add 48 = .ok (.iload_n 3, 1) := by decide +kernel
theorem dX7_add_49 : decode cX7_add 49 = .ok (.iastore, 1) := by decide +kernel
theorem dX7_add_50 : decode cX7_add 50 = .ok (.aload_n 0, 1) := by decide +kernel
theorem dX7_add_51 : decode cX7_add 51 = .ok (.dup, 1) := by decide +kernel
theorem dX7_add_52 : decode cX7_add 52 = .ok (.getfield 25, 3) := by decide +kernel
theorem dX7_add_55 : decode cX7_add 55 = .ok (.iconst 1, 1) := by decide +kernel
theorem dX7_add_56 : decode cX7_add 56 = .ok (.iadd, 1) := by decide +kernel
theorem dX7_add_57 : decode cX7_add 57 = .ok (.putfield 25, 3) := by decide +kernel
theorem dX7_add_60 : decode cX7_add 60 = .ok (.return_, 1) := by decide +kernel
theorem dX7_tellRow_0 : decode cX7_tellRow 0 = .ok (.iload_n 2, 1) := by decide +kernel
theorem dX7_tellRow_1 : decode cX7_tellRow 1 = .ok (.lookupswitch 41 #[(0, 27), (1, 34)], 27) := by decide +kernel
theorem dX7_tellRow_28 : decode cX7_tellRow 28 = .ok (.aload_n 0, 1) := by decide +kernel
theorem dX7_tellRow_29 : decode cX7_tellRow 29 = .ok (.getfield 15, 3) := by decide +kernel
theorem dX7_tellRow_32 : decode cX7_tellRow 32 = .ok (.iload_n 1, 1) := by decide +kernel
theorem dX7_tellRow_33 : decode cX7_tellRow 33 = .ok (.iaload, 1) := by decide +kernel
theorem dX7_tellRow_34 : decode cX7_tellRow 34 = .ok (.ireturn, 1) := by decide +kernel
theorem dX7_tellRow_35 : decode cX7_tellRow 35 = .ok (.aload_n 0, 1) := by decide +kernel
theorem dX7_tellRow_36 : decode cX7_tellRow 36 = .ok (.getfield 19, 3) := by decide +kernel
theorem dX7_tellRow_39 : decode cX7_tellRow 39 = .ok (.iload_n 1, 1) := by decide +kernel
theorem dX7_tellRow_40 : decode cX7_tellRow 40 = .ok (.iaload, 1) := by decide +kernel
theorem dX7_tellRow_41 : decode cX7_tellRow 41 = .ok (.ireturn, 1) := by decide +kernel
theorem dX7_tellRow_42 : decode cX7_tellRow 42 = .ok (.aload_n 0, 1) := by decide +kernel
theorem dX7_tellRow_43 : decode cX7_tellRow 43 = .ok (.getfield 22, 3) := by decide +kernel
theorem dX7_tellRow_46 : decode cX7_tellRow 46 = .ok (.iload_n 1, 1) := by decide +kernel
theorem dX7_tellRow_47 : decode cX7_tellRow 47 = .ok (.iaload, 1) := by decide +kernel
theorem dX7_tellRow_48 : decode cX7_tellRow 48 = .ok (.ireturn, 1) := by decide +kernel
theorem dX8_init_0 : decode cX8_init 0 = .ok (.aload_n 0, 1) := by decide +kernel
theorem dX8_init_1 : decode cX8_init 1 = .ok (.invokespecial 3, 3) := by decide +kernel
theorem dX8_init_4 : decode cX8_init 4 = .ok (.aload_n 0, 1) := by decide +kernel
theorem dX8_init_5 : decode cX8_init 5 = .ok (.bipush 60, 2) := by decide +kernel
theorem dX8_init_7 : decode cX8_init 7 = .ok (.newarray .int, 2) := by decide +kernel
theorem dX8_init_9 : decode cX8_init 9 = .ok (.putfield 9, 3) := by decide +kernel
theorem dX8_init_12 : decode cX8_init 12 = .ok (.aload_n 0, 1) := by decide +kernel
theorem dX8_init_13 : decode cX8_init 13 = .ok (.bipush 8, 2) := by decide +kernel
theorem dX8_init_15 : decode cX8_init 15 = .ok (.newarray .boolean, 2) := by decide +kernel
theorem dX8_init_17 : decode cX8_init 17 = .ok (.putfield 15, 3) := by decide +kernel
theorem dX8_init_20 : decode cX8_init 20 = .ok (.return_, 1) := by decide +kernel
theorem dX8_add_0 : decode cX8_add 0 = .ok (.aload_n 0, 1) := by decide +kernel
theorem dX8_add_1 : decode cX8_add 1 = .ok (.getfield 19, 3) := by decide +kernel
theorem dX8_add_4 : decode cX8_add 4 = .ok (.bipush 60, 2) := by decide +kernel
theorem dX8_add_6 : decode cX8_add 6 = .ok (.if_icmp .ge 23, 3) := by decide +kernel
theorem dX8_add_9 : decode cX8_add 9 = .ok (.aload_n 0, 1) := by decide +kernel
theorem dX8_add_10 : decode cX8_add 10 = .ok (.getfield 9, 3) := by decide +kernel
theorem dX8_add_13 : decode cX8_add 13 = .ok (.aload_n 0, 1) := by decide +kernel
theorem dX8_add_14 : decode cX8_add 14 = .ok (.getfield 19, 3) := by decide +kernel
theorem dX8_add_17 : decode cX8_add 17 = .ok (.iload_n 1, 1) := by decide +kernel
theorem dX8_add_18 : decode cX8_add 18 = .ok (.iastore, 1) := by decide +kernel
theorem dX8_add_19 : decode cX8_add 19 = .ok (.aload_n 0, 1) := by decide +kernel
theorem dX8_add_20 : decode cX8_add 20 = .ok (.dup, 1) := by decide +kernel
theorem dX8_add_21 : decode cX8_add 21 = .ok (.getfield 19, 3) := by decide +kernel
theorem dX8_add_24 : decode cX8_add 24 = .ok (.iconst 1, 1) := by decide +kernel
theorem dX8_add_25 : decode cX8_add 25 = .ok (.iadd, 1) := by decide +kernel
theorem dX8_add_26 : decode cX8_add 26 = .ok (.putfield 19, 3) := by decide +kernel
theorem dX8_add_29 : decode cX8_add 29 = .ok (.return_, 1) := by decide +kernel
set_option maxRecDepth 20000 in
theorem ggX8_readInto_X5_reset : GoodIn wsX8_readInto wsX5_reset := goodIn_r _ [8, 9, 10, 11, 12, 13, 14, 15, 16, 17, 18, 19, 20, 21, 22, 23, 24, 25, 26, 27, 28, 29, 30, 31, 32, 33, 34, 35, 36, 37, 38, 39, 40, 41, 42, 43, 44, 45, 46, 47, 48, 49, 7, 50, 51, 52, 53, 54, 55, 56, 57, 58, 59, 60, 61, 62, 63, 64, 123, 124, 125, 126, 127, 128, 129, 130, 131, 132, 133, 134, 135, 136, 137, 138, 139, 140, 141, 142, 143, 144, 145, 146, 147, 148] (by decide +kernel) (by decide +kernel)
set_option maxRecDepth 20000 in
theorem gX8_readInto_X5_reset : GoodIn wsX8_readInto (wsV RX8 23 RX5 yX5_reset wsX5_reset) := goodIn_app (goodIn_of _ (by decide +kernel)) ggX8_readInto_X5_reset
set_option maxRecDepth 20000 in
theorem ggX8_readInto_X8_start : GoodIn wsX8_readInto wsX8_start := goodIn_r _ [69, 1, 70, 71, 72, 73, 116, 117, 118, 119, 120, 121, 122] (by decide +kernel) (by decide +kernel)
set_option maxRecDepth 20000 in
theorem gX8_readInto_X8_start : GoodIn wsX8_readInto (wsV RX8 28 RX8 yX8_start wsX8_start) := goodIn_app (goodIn_of _ (by decide +kernel)) ggX8_readInto_X8_start
set_option maxRecDepth 20000 in
theorem ggX8_readInto_X8_readHead : GoodIn wsX8_readInto wsX8_readHead := goodIn_r _ [77, 1, 3, 78, 79, 80, 81, 82, 83, 84, 68, 85, 2, 86, 87, 88, 89, 90, 91, 92, 93, 94, 116, 117, 118, 119, 120, 121, 122, 123, 124, 125, 126, 127, 128, 129, 130, 131, 132, 133, 134, 135, 136, 137, 138, 139] (by decide +kernel) (by decide +kernel)
set_option maxRecDepth 20000 in
theorem gX8_readInto_X8_readHead : GoodIn wsX8_readInto (wsV RX8 31 RX8 yX8_readHead wsX8_readHead) := goodIn_app (goodIn_of _ (by decide +kernel)) ggX8_readInto_X8_readHead
set_option maxRecDepth 20000 in
theorem ggX8_readInto_X8_readPart : GoodIn wsX8_readInto wsX8_readPart := goodIn_r _ [98, 82, 83, 84, 68, 85, 1, 2, 86, 3, 99, 100, 101, 102, 70, 103, 87, 88, 89, 90, 91, 92, 93, 94, 104, 60, 61, 55, 62, 63, 64, 105, 106, 107, 108, 71, 109, 110, 111, 112, 113, 114, 72, 73, 115, 116, 117, 118, 119, 120, 121, 122, 123, 124, 125, 126, 127, 128, 146, 147, 148, 140, 141, 142, 143, 144, 145] (by decide +kernel) (by decide +kernel)
set_option maxRecDepth 20000 in
theorem gX8_readInto_X8_readPart : GoodIn wsX8_readInto (wsV RX8 38 RX8 yX8_readPart wsX8_readPart) := goodIn_app (goodIn_of _ (by decide +kernel)) ggX8_readInto_X8_readPart
theorem dX8_readInto_0 : decode cX8_readInto 0 = .ok (.aload_n 1, 1) := by decide +kernel
theorem dX8_readInto_1 : decode cX8_readInto 1 = .ok (.invokevirtual 23, 3) := by decide +kernel
theorem dX8_readInto_4 : decode cX8_readInto 4 = .ok (.aload_n 0, 1) := by decide +kernel
theorem dX8_readInto_5 : decode cX8_readInto 5 = .ok (.invokevirtual 28, 3) := by decide +kernel
theorem dX8_readInto_8 : decode cX8_readInto 8 = .ok (.aload_n 0, 1) := by decide +kernel
theorem dX8_readInto_9 : decode cX8_readInto 9 = .ok (.aload_n 1, 1) := by decide +kernel
theorem dX8_readInto_10 : decode cX8_readInto 10 = .ok (.invokevirtual 31, 3) := by decide +kernel
theorem dX8_readInto_13 : decode cX8_readInto 13 = .ok (.ifCond .ne 8, 3) := by decide +kernel
theorem dX8_readInto_16 : decode cX8_readInto 16 = .ok (.aload_n 0, 1) := by decide +kernel
theorem dX8_readInto_17 : decode cX8_readInto 17 = .ok (.getfield 35, 3) := by decide +kernel
theorem dX8_readInto_20 : decode cX8_readInto 20 = .ok (.ireturn, 1) := by decide +kernel
theorem dX8_readInto_21 : decode cX8_readInto 21 = .ok (.iconst 0, 1) := by decide +kernel
theorem dX8_readInto_22 : decode cX8_readInto 22 = .ok (.istore_n 2, 1) := by decide +kernel
theorem dX8_readInto_23 : decode cX8_readInto 23 = .ok (.iload_n 2, 1) := by decide +kernel
theorem dX8_readInto_24 : decode cX8_readInto 24 = .ok (.bipush 60, 2) := by decide +kernel
theorem dX8_readInto_26 : decode cX8_readInto 26 = .ok (.if_icmp .ge 33, 3) := by decide +kernel
theorem dX8_readInto_29 : decode cX8_readInto 29 = .ok (.aload_n 0, 1) := by decide +kernel
theorem dX8_readInto_30 : decode cX8_readInto 30 = .ok (.getfield 35, 3) := by decide +kernel
theorem dX8_readInto_33 : decode cX8_readInto 33 = .ok (.aload_n 0, 1) := by decide +kernel
theorem dX8_readInto_34 : decode cX8_readInto 34 = .ok (.getfield 19, 3) := by decide +kernel
theorem dX8_readInto_37 : decode cX8_readInto 37 = .ok (.if_icmp .ge 22, 3) := by decide +kernel
theorem dX8_readInto_40 : decode cX8_readInto 40 = .ok (.aload_n 0, 1) := by decide +kernel
theorem dX8_readInto_41 : decode cX8_readInto 41 = .ok (.aload_n 1, 1) := by decide +kernel
theorem dX8_readInto_42 : decode cX8_readInto 42 = .ok (.invokevirtual 38, 3) := by decide +kernel
theorem dX8_readInto_45 : decode cX8_readInto 45 = .ok (.ifCond .ne 8, 3) := by decide +kernel
theorem dX8_readInto_48 : decode cX8_readInto 48 = .ok (.aload_n 0, 1) := by decide +kernel
theorem dX8_readInto_49 : decode cX8_readInto 49 = .ok (.getfield 35, 3) := by decide +kernel
theorem dX8_readInto_52 : decode cX8_readInto 52 = .ok (.ireturn, 1) := by decide +kernel
theorem dX8_readInto_53 : decode cX8_readInto 53 = .ok (.iinc 2 1, 3) := by decide +kernel
theorem dX8_readInto_56 : decode cX8_readInto 56 = .ok (.goto (-33), 3) := by decide +kernel
theorem dX8_readInto_59 : decode cX8_readInto 59 = .ok (.ldc 41, 2) := by decide +kernel
theorem dX8_readInto_61 : decode cX8_readInto 61 = .ok (.ireturn, 1) := by decide +kernel
theorem dX8_start_0 : decode cX8_start 0 = .ok (.aload_n 0, 1) := by decide +kernel
theorem dX8_start_1 : decode cX8_start 1 = .ok (.iconst 0, 1) := by decide +kernel
theorem dX8_start_2 : decode cX8_start 2 = .ok (.putfield 35, 3) := by decide +kernel
theorem dX8_start_5 : decode cX8_start 5 = .ok (.aload_n 0, 1) := by decide +kernel
theorem dX8_start_6 : decode cX8_start 6 = .ok (.iconst 0, 1) := by decide +kernel
theorem dX8_start_7 : decode cX8_start 7 = .ok (.putfield 42, 3) := by decide +kernel
theorem dX8_start_10 : decode cX8_start 10 = .ok (.aload_n 0, 1) := by decide +kernel
theorem dX8_start_11 : decode cX8_start 11 = .ok (.iconst 0, 1) := by decide +kernel
theorem dX8_start_12 : decode cX8_start 12 = .ok (.putfield 45, 3) := by decide +kernel
theorem dX8_start_15 : decode cX8_start 15 = .ok (.aload_n 0, 1) := by decide +kernel
theorem dX8_start_16 : decode cX8_start 16 = .ok (.iconst 0, 1) := by decide +kernel
theorem dX8_start_17 : decode cX8_start 17 = .ok (.putfield 48, 3) := by decide +kernel
theorem dX8_start_20 : decode cX8_start 20 = .ok (.iconst 0, 1) := by decide +kernel
theorem dX8_start_21 : decode cX8_start 21 = .ok (.istore_n 1, 1) := by decide +kernel
theorem dX8_start_22 : decode cX8_start 22 = .ok (.iload_n 1, 1) := by decide +kernel
theorem dX8_start_23 : decode cX8_start 23 = .ok (.aload_n 0, 1) := by decide +kernel
theorem dX8_start_24 : decode cX8_start 24 = .ok (.getfield 15, 3) := by decide +kernel
theorem dX8_start_27 : decode cX8_start 27 = .ok (.arraylength, 1) := by decide +kernel
theorem dX8_start_28 : decode cX8_start 28 = .ok (.if_icmp .ge 16, 3) := by decide +kernel
theorem dX8_start_31 : decode cX8_start 31 = .ok (.aload_n 0, 1) := by decide +kernel
theorem dX8_start_32 : decode cX8_start 32 = .ok (.getfield 15, 3) := by decide +kernel
theorem dX8_start_35 : decode cX8_start 35 = .ok (.iload_n 1, 1) := by decide +kernel
theorem dX8_start_36 : decode cX8_start 36 = .ok (.iconst 0, 1) := by decide +kernel
theorem dX8_start_37 : decode cX8_start 37 = .ok (.bastore, 1) := by decide +kernel
theorem dX8_start_38 : decode cX8_start 38 = .ok (.iinc 1 1, 3) := by decide +kernel
theorem dX8_start_41 : decode cX8_start 41 = .ok (.goto (-19), 3) := by decide +kernel
theorem dX8_start_44 : decode cX8_start 44 = .ok (.return_, 1) := by decide +kernel
set_option maxRecDepth 20000 in
theorem ggX8_readHead_X8_here : GoodIn wsX8_readHead wsX8_here := goodIn_r _ [11, 1, 12, 13, 2, 22, 23, 24, 25, 26, 27, 28] (by decide +kernel) (by decide +kernel)
set_option maxRecDepth 20000 in
theorem gX8_readHead_X8_here : GoodIn wsX8_readHead (wsV RX8 51 RX8 yX8_here wsX8_here) := goodIn_app (goodIn_of _ (by decide +kernel)) ggX8_readHead_X8_here
set_option maxRecDepth 20000 in
theorem ggX8_readHead_X8_readNumber : GoodIn wsX8_readHead wsX8_readNumber := goodIn_r _ [17, 2, 1, 18, 19, 20, 10, 21, 7, 8, 9, 11, 12, 13, 22, 23, 24, 25, 26, 27, 28] (by decide +kernel) (by decide +kernel)
set_option maxRecDepth 20000 in
theorem gX8_readHead_X8_readNumber : GoodIn wsX8_readHead (wsV RX8 55 RX8 yX8_readNumber wsX8_readNumber) := goodIn_app (goodIn_of _ (by decide +kernel)) ggX8_readHead_X8_readNumber
theorem dX8_readHead_0 : decode cX8_readHead 0 = .ok (.aload_n 0, 1) := by decide +kernel
theorem dX8_readHead_1 : decode cX8_readHead 1 = .ok (.invokevirtual 51, 3) := by decide +kernel
theorem dX8_readHead_4 : decode cX8_readHead 4 = .ok (.bipush 75, 2) := by decide +kernel
theorem dX8_readHead_6 : decode cX8_readHead 6 = .ok (.if_icmp .eq 5, 3) := by decide +kernel
theorem dX8_readHead_9 : decode cX8_readHead 9 = .ok (.iconst 0, 1) := by decide +kernel
theorem dX8_readHead_10 : decode cX8_readHead 10 = .ok (.ireturn, 1) := by decide +kernel
theorem dX8_readHead_11 : decode cX8_readHead 11 = .ok (.aload_n 0, 1) := by decide +kernel
theorem dX8_readHead_12 : decode cX8_readHead 12 = .ok (.dup, 1) := by decide +kernel
theorem dX8_readHead_13 : decode cX8_readHead 13 = .ok (.getfield 35, 3) := by decide +kernel
theorem dX8_readHead_16 : decode cX8_readHead 16 = .ok (.iconst 1, 1) := by decide +kernel
theorem dX8_readHead_17 : decode cX8_readHead 17 = .ok (.iadd, 1) := by decide +kernel
theorem dX8_readHead_18 : decode cX8_readHead 18 = .ok (.putfield 35, 3) := by decide +kernel
theorem dX8_readHead_21 : decode cX8_readHead 21 = .ok (.aload_n 0, 1) := by decide +kernel
theorem dX8_readHead_22 : decode cX8_readHead 22 = .ok (.invokevirtual 51, 3) := by decide +kernel
theorem dX8_readHead_25 : decode cX8_readHead 25 = .ok (.istore_n 2, 1) := by decide +kernel
theorem dX8_readHead_26 : decode cX8_readHead 26 = .ok (.iload_n 2, 1) := by decide +kernel
theorem dX8_readHead_27 : decode cX8_readHead 27 = .ok (.bipush 43, 2) := by decide +kernel
theorem dX8_readHead_29 : decode cX8_readHead 29 = .ok (.if_icmp .eq 11, 3) := by decide +kernel
theorem dX8_readHead_32 : decode cX8_readHead 32 = .ok (.iload_n 2, 1) := by decide +kernel
theorem dX8_readHead_33 : decode cX8_readHead 33 = .ok (.bipush 45, 2) := by decide +kernel
theorem dX8_readHead_35 : decode cX8_readHead 35 = .ok (.if_icmp .eq 5, 3) := by decide +kernel
theorem dX8_readHead_38 : decode cX8_readHead 38 = .ok (.iconst 0, 1) := by decide +kernel
theorem dX8_readHead_39 : decode cX8_readHead 39 = .ok (.ireturn, 1) := by decide +kernel
theorem dX8_readHead_40 : decode cX8_readHead 40 = .ok (.aload_n 0, 1) := by decide +kernel
theorem dX8_readHead_41 : decode cX8_readHead 41 = .ok (.dup, 1) := by decide +kernel
theorem dX8_readHead_42 : decode cX8_readHead 42 = .ok (.getfield 35, 3) := by decide +kernel
theorem dX8_readHead_45 : decode cX8_readHead 45 = .ok (.iconst 1, 1) := by decide +kernel
theorem dX8_readHead_46 : decode cX8_readHead 46 = .ok (.iadd, 1) := by decide +kernel
theorem dX8_readHead_47 : decode cX8_readHead 47 = .ok (.putfield 35, 3) := by decide +kernel
theorem dX8_readHead_50 : decode cX8_readHead 50 = .ok (.aload_n 0, 1) := by decide +kernel
theorem dX8_readHead_51 : decode cX8_readHead 51 = .ok (.bipush 100, 2) := by decide +kernel
theorem dX8_readHead_53 : decode cX8_readHead 53 = .ok (.sipush 500, 3) := by decide +kernel
theorem dX8_readHead_56 : decode cX8_readHead 56 = .ok (.invokevirtual 55, 3) := by decide +kernel
theorem dX8_readHead_59 : decode cX8_readHead 59 = .ok (.istore_n 3, 1) := by decide +kernel
theorem dX8_readHead_60 : decode cX8_readHead 60 = .ok (.iload_n 3, 1) := by decide +kernel
theorem dX8_readHead_61 : decode cX8_readHead 61 = .ok (.ldc 41, 2) := by decide +kernel
theorem dX8_readHead_63 : decode cX8_readHead 63 = .ok (.if_icmp .ne 5, 3) := by decide +kernel
theorem dX8_readHead_66 : decode cX8_readHead 66 = .ok (.iconst 0, 1) := by decide +kernel
theorem dX8_readHead_67 : decode cX8_readHead 67 = .ok (.ireturn, 1) := by decide +kernel
theorem dX8_readHead_68 : decode cX8_readHead 68 = .ok (.aload_n 0, 1) := by decide +kernel
theorem dX8_readHead_69 : decode cX8_readHead 69 = .ok (.sipush 1000, 3) := by decide +kernel
theorem dX8_readHead_72 : decode cX8_readHead 72 = .ok (.sipush 9999, 3) := by decide +kernel
theorem dX8_readHead_75 : decode cX8_readHead 75 = .ok (.invokevirtual 55, 3) := by decide +kernel
theorem dX8_readHead_78 : decode cX8_readHead 78 = .ok (.istore 4, 2) := by decide +kernel
theorem dX8_readHead_80 : decode cX8_readHead 80 = .ok (.iload 4, 2) := by decide +kernel
theorem dX8_readHead_82 : decode cX8_readHead 82 = .ok (.ldc 41, 2) := by decide +kernel
theorem dX8_readHead_84 : decode cX8_readHead 84 = .ok (.if_icmp .ne 5, 3) := by decide +kernel
theorem dX8_readHead_87 : decode cX8_readHead 87 = .ok (.iconst 0, 1) := by decide +kernel
theorem dX8_readHead_88 : decode cX8_readHead 88 = .ok (.ireturn, 1) := by decide +kernel
theorem dX8_readHead_89 : decode cX8_readHead 89 = .ok (.aload_n 1, 1) := by decide +kernel
theorem dX8_readHead_90 : decode cX8_readHead 90 = .ok (.getfield 59, 3) := by decide +kernel
theorem dX8_readHead_93 : decode cX8_readHead 93 = .ok (.iload_n 2, 1) := by decide +kernel
theorem dX8_readHead_94 : decode cX8_readHead 94 = .ok (.bipush 45, 2) := by decide +kernel
theorem dX8_readHead_96 : decode cX8_readHead 96 = .ok (.if_icmp .ne 8, 3) := by decide +kernel
theorem dX8_readHead_99 : decode cX8_readHead 99 = .ok (.iload_n 3, 1) := by decide +kernel
theorem dX8_readHead_100 : decode cX8_readHead 100 = .ok (.ineg, 1) := by decide +kernel
theorem dX8_readHead_101 : decode cX8_readHead 101 = .ok (.goto 4, 3) := by decide +kernel
theorem dX8_readHead_104 : decode cX8_readHead 104 = .ok (.iload_n 3, 1) := by decide +kernel
theorem dX8_readHead_105 : decode cX8_readHead 105 = .ok (.putfield 63, 3) := by decide +kernel
theorem dX8_readHead_108 : decode cX8_readHead 108 = .ok (.aload_n 1, 1) := by decide +kernel
theorem dX8_readHead_109 : decode cX8_readHead 109 = .ok (.getfield 68, 3) := by decide +kernel
theorem dX8_readHead_112 : decode cX8_readHead 112 = .ok (.iload 4, 2) := by decide +kernel
theorem dX8_readHead_114 : decode cX8_readHead 114 = .ok (.putfield 72, 3) := by decide +kernel
theorem dX8_readHead_117 : decode cX8_readHead 117 = .ok (.iconst 1, 1) := by decide +kernel
theorem dX8_readHead_118 : decode cX8_readHead 118 = .ok (.ireturn, 1) := by decide +kernel
set_option maxRecDepth 20000 in
theorem ggX8_readPart_X8_here : GoodIn wsX8_readPart wsX8_here := goodIn_r _ [5, 6, 7, 8, 9, 45, 46, 47, 48, 49, 50, 51] (by decide +kernel) (by decide +kernel)
set_option maxRecDepth 20000 in
theorem gX8_readPart_X8_here : GoodIn wsX8_readPart (wsV RX8 51 RX8 yX8_here wsX8_here) := goodIn_app (goodIn_of _ (by decide +kernel)) ggX8_readPart_X8_here
set_option maxRecDepth 20000 in
theorem ggX8_readPart_X8_readAlarm : GoodIn wsX8_readPart wsX8_readAlarm := goodIn_r _ [13, 14, 6, 9, 15, 16, 17, 18, 4, 19, 20, 21, 22, 23, 1, 2, 3, 5, 7, 8, 24, 25, 26, 27, 28, 29, 30, 45, 46, 47, 48, 49, 50, 51, 52, 53, 54, 55, 56, 57, 58, 59, 60] (by decide +kernel) (by decide +kernel)
set_option maxRecDepth 20000 in
theorem gX8_readPart_X8_readAlarm : GoodIn wsX8_readPart (wsV RX8 77 RX8 yX8_readAlarm wsX8_readAlarm) := goodIn_app (goodIn_of _ (by decide +kernel)) ggX8_readPart_X8_readAlarm
set_option maxRecDepth 20000 in
theorem ggX8_readPart_X8_readPin : GoodIn wsX8_readPart wsX8_readPin := goodIn_r _ [34, 35, 6, 36, 37, 20, 21, 22, 4, 23, 9, 1, 2, 3, 5, 7, 8, 45, 46, 47, 48, 49, 50, 51, 52, 53, 54, 55, 56, 57, 61, 62, 63, 64, 65, 66] (by decide +kernel) (by decide +kernel)
set_option maxRecDepth 20000 in
theorem gX8_readPart_X8_readPin : GoodIn wsX8_readPart (wsV RX8 80 RX8 yX8_readPin wsX8_readPin) := goodIn_app (goodIn_of _ (by decide +kernel)) ggX8_readPart_X8_readPin
set_option maxRecDepth 20000 in
theorem ggX8_readPart_X8_readRegister : GoodIn wsX8_readPart wsX8_readRegister := goodIn_r _ [41, 42, 6, 43, 9, 44, 20, 21, 22, 4, 23, 1, 2, 3, 5, 7, 8, 16, 17, 18, 19, 45, 46, 47, 48, 49, 50, 51, 52, 53, 54, 55, 56, 57] (by decide +kernel) (by decide +kernel)
set_option maxRecDepth 20000 in
theorem gX8_readPart_X8_readRegister : GoodIn wsX8_readPart (wsV RX8 83 RX8 yX8_readRegister wsX8_readRegister) := goodIn_app (goodIn_of _ (by decide +kernel)) ggX8_readPart_X8_readRegister
theorem dX8_readPart_0 : decode cX8_readPart 0 = .ok (.aload_n 0, 1) := by decide +kernel
theorem dX8_readPart_1 : decode cX8_readPart 1 = .ok (.invokevirtual 51, 3) := by decide +kernel
theorem dX8_readPart_4 : decode cX8_readPart 4 = .ok (.lookupswitch 54 #[(97, 36), (112, 42), (114, 48)], 36) := by decide +kernel
theorem dX8_readPart_40 : decode cX8_readPart 40 = .ok (.aload_n 0, 1) := by decide +kernel
theorem dX8_readPart_41 : decode cX8_readPart 41 = .ok (.aload_n 1, 1) := by decide +kernel
theorem dX8_readPart_42 : decode cX8_readPart 42 = .ok (.invokevirtual 77, 3) := by decide +kernel
theorem dX8_readPart_45 : decode cX8_readPart 45 = .ok (.ireturn, 1) := by decide +kernel
theorem dX8_readPart_46 : decode cX8_readPart 46 = .ok (.aload_n 0, 1) := by decide +kernel
theorem dX8_readPart_47 : decode cX8_readPart 47 = .ok (.aload_n 1, 1) := by decide +kernel
theorem dX8_readPart_48 : decode cX8_readPart 48 = .ok (.invokevirtual 80, 3) := by decide +kernel
theorem dX8_readPart_51 : decode cX8_readPart 51 = .ok (.ireturn, 1) := by decide +kernel
theorem dX8_readPart_52 : decode cX8_readPart 52 = .ok (.aload_n 0, 1) := by decide +kernel
theorem dX8_readPart_53 : decode cX8_readPart 53 = .ok (.aload_n 1, 1) := by decide +kernel
theorem dX8_readPart_54 : decode cX8_readPart 54 = .ok (.invokevirtual 83, 3) := by decide +kernel
theorem dX8_readPart_57 : decode cX8_readPart 57 = .ok (.ireturn, 1) := by decide +kernel
theorem dX8_readPart_58 : decode cX8_readPart 58 = .ok (.iconst 0, 1) := by decide +kernel
theorem dX8_readPart_59 : decode cX8_readPart 59 = .ok (.ireturn, 1) := by decide +kernel
set_option maxRecDepth 20000 in
theorem ggX8_readAlarm_X8_readNumber : GoodIn wsX8_readAlarm wsX8_readNumber := goodIn_r _ [9, 3, 2, 10, 11, 12, 8, 13, 14, 15, 16, 17, 18, 19, 27, 28, 29, 30, 31, 32, 33] (by decide +kernel) (by decide +kernel)
set_option maxRecDepth 20000 in
theorem gX8_readAlarm_X8_readNumber : GoodIn wsX8_readAlarm (wsV RX8 55 RX8 yX8_readNumber wsX8_readNumber) := goodIn_app (goodIn_of _ (by decide +kernel)) ggX8_readAlarm_X8_readNumber
set_option maxRecDepth 20000 in
theorem ggX8_readAlarm_X0_setTo : GoodIn wsX8_readAlarm wsX0_setTo := goodIn_r _ [24, 25, 26, 40, 41, 42] (by decide +kernel) (by decide +kernel)
set_option maxRecDepth 20000 in
theorem gX8_readAlarm_X0_setTo : GoodIn wsX8_readAlarm (wsV RX8 90 RX0 yX0_setTo wsX0_setTo) := goodIn_app (goodIn_of _ (by decide +kernel)) ggX8_readAlarm_X0_setTo
theorem dX8_readAlarm_0 : decode cX8_readAlarm 0 = .ok (.aload_n 0, 1) := by decide +kernel
theorem dX8_readAlarm_1 : decode cX8_readAlarm 1 = .ok (.getfield 42, 3) := by decide +kernel
theorem dX8_readAlarm_4 : decode cX8_readAlarm 4 = .ok (.iconst 4, 1) := by decide +kernel
theorem dX8_readAlarm_5 : decode cX8_readAlarm 5 = .ok (.if_icmp .lt 5, 3) := by decide +kernel
theorem dX8_readAlarm_8 : decode cX8_readAlarm 8 = .ok (.iconst 0, 1) := by decide +kernel
theorem dX8_readAlarm_9 : decode cX8_readAlarm 9 = .ok (.ireturn, 1) := by decide +kernel
theorem dX8_readAlarm_10 : decode cX8_readAlarm 10 = .ok (.aload_n 0, 1) := by decide +kernel
theorem dX8_readAlarm_11 : decode cX8_readAlarm 11 = .ok (.dup, 1) := by decide +kernel
theorem dX8_readAlarm_12 : decode cX8_readAlarm 12 = .ok (.getfield 35, 3) := by decide +kernel
theorem dX8_readAlarm_15 : decode cX8_readAlarm 15 = .ok (.iconst 1, 1) := by decide +kernel
theorem dX8_readAlarm_16 : decode cX8_readAlarm 16 = .ok (.iadd, 1) := by decide +kernel
theorem dX8_readAlarm_17 : decode cX8_readAlarm 17 = .ok (.putfield 35, 3) := by decide +kernel
theorem dX8_readAlarm_20 : decode cX8_readAlarm 20 = .ok (.aload_n 0, 1) := by decide +kernel
theorem dX8_readAlarm_21 : decode cX8_readAlarm 21 = .ok (.bipush 10, 2) := by decide +kernel
theorem dX8_readAlarm_23 : decode cX8_readAlarm 23 = .ok (.bipush 23, 2) := by decide +kernel
theorem dX8_readAlarm_25 : decode cX8_readAlarm 25 = .ok (.invokevirtual 55, 3) := by decide +kernel
theorem dX8_readAlarm_28 : decode cX8_readAlarm 28 = .ok (.istore_n 2, 1) := by decide +kernel
theorem dX8_readAlarm_29 : decode cX8_readAlarm 29 = .ok (.iload_n 2, 1) := by decide +kernel
theorem dX8_readAlarm_30 : decode cX8_readAlarm 30 = .ok (.ldc 41, 2) := by decide +kernel
theorem dX8_readAlarm_32 : decode cX8_readAlarm 32 = .ok (.if_icmp .ne 5, 3) := by decide +kernel
theorem dX8_readAlarm_35 : decode cX8_readAlarm 35 = .ok (.iconst 0, 1) := by decide +kernel
theorem dX8_readAlarm_36 : decode cX8_readAlarm 36 = .ok (.ireturn, 1) := by decide +kernel
theorem dX8_readAlarm_37 : decode cX8_readAlarm 37 = .ok (.aload_n 0, 1) := by decide +kernel
theorem dX8_readAlarm_38 : decode cX8_readAlarm 38 = .ok (.bipush 10, 2) := by decide +kernel
theorem dX8_readAlarm_40 : decode cX8_readAlarm 40 = .ok (.bipush 59, 2) := by decide +kernel

theorem dX8_sharesAt_100 : decode cX8_sharesAt 100 = .ok (.if_icmp .ge 40, 3) := by decide +kernel
theorem dX8_sharesAt_103 : decode cX8_sharesAt 103 = .ok (.iload_n 3, 1) := by decide +kernel
theorem dX8_sharesAt_104 : decode cX8_sharesAt 104 = .ok (.ifCond .le 36, 3) := by decide +kernel
theorem dX8_sharesAt_107 : decode cX8_sharesAt 107 = .ok (.aload_n 0, 1) := by decide +kernel
theorem dX8_sharesAt_108 : decode cX8_sharesAt 108 = .ok (.getfield 83, 3) := by decide +kernel
theorem dX8_sharesAt_111 : decode cX8_sharesAt 111 = .ok (.iload 4, 2) := by decide +kernel
theorem dX8_sharesAt_113 : decode cX8_sharesAt 113 = .ok (.iaload, 1) := by decide +kernel
theorem dX8_sharesAt_114 : decode cX8_sharesAt 114 = .ok (.ifCond .ne 6, 3) := by decide +kernel
theorem dX8_sharesAt_117 : decode cX8_sharesAt 117 = .ok (.goto 17, 3) := by decide +kernel
theorem dX8_sharesAt_120 : decode cX8_sharesAt 120 = .ok (.aload_n 0, 1) := by decide +kernel
theorem dX8_sharesAt_121 : decode cX8_sharesAt 121 = .ok (.getfield 86, 3) := by decide +kernel
theorem dX8_sharesAt_124 : decode cX8_sharesAt 124 = .ok (.iload 4, 2) := by decide +kernel
theorem dX8_sharesAt_126 : decode cX8_sharesAt 126 = .ok (.dup2, 1) := by decide +kernel
theorem dX8_sharesAt_127 : decode cX8_sharesAt 127 = .ok (.iaload, 1) := by decide +kernel
theorem dX8_sharesAt_128 : decode cX8_sharesAt 128 = .ok (.iconst 1, 1) := by decide +kernel
theorem dX8_sharesAt_129 : decode cX8_sharesAt 129 = .ok (.iadd, 1) := by decide +kernel
theorem dX8_sharesAt_130 : decode cX8_sharesAt 130 = .ok (.iastore, 1) := by decide +kernel
theorem dX8_sharesAt_131 : decode cX8_sharesAt 131 = .ok (.iinc 3 (-1), 3) := by decide +kernel
theorem dX8_sharesAt_134 : decode cX8_sharesAt 134 = .ok (.iinc 4 1, 3) := by decide +kernel
theorem dX8_sharesAt_137 : decode cX8_sharesAt 137 = .ok (.goto (-43), 3) := by decide +kernel
theorem dX8_sharesAt_140 : decode cX8_sharesAt 140 = .ok (.iconst 0, 1) := by decide +kernel
theorem dX8_sharesAt_141 : decode cX8_sharesAt 141 = .ok (.ireturn, 1) := by decide +kernel
set_option maxRecDepth 20000 in
theorem ggX8_points_X8_isCanon : GoodIn wsX8_points wsX8_isCanon := goodIn_sl _ [(6, 4), (5, 1), (10, 1), (38, 51)] rfl (by decide +kernel)
set_option maxRecDepth 20000 in
theorem gX8_points_X8_isCanon : GoodIn wsX8_points (wsV RX8 129 RX8 yX8_isCanon wsX8_isCanon) := goodIn_app (goodIn_of _ (by decide +kernel)) ggX8_points_X8_isCanon
set_option maxRecDepth 20000 in
theorem ggX8_points_X8_isDay : GoodIn wsX8_points wsX8_isDay := goodIn_sl _ [(13, 1), (8, 2), (5, 1), (10, 1)] rfl (by decide +kernel)
set_option maxRecDepth 20000 in
theorem gX8_points_X8_isDay : GoodIn wsX8_points (va_wsS RX8 143 yX8_isDay wsX8_isDay) := goodIn_app (goodIn_of _ (by decide +kernel)) ggX8_points_X8_isDay
set_option maxRecDepth 20000 in
theorem ggX8_points_X8_pointsAt : GoodIn wsX8_points wsX8_pointsAt := goodIn_sl _ [(17, 9), (7, 1), (26, 1), (1, 1), (27, 3), (5, 1), (30, 59)] rfl (by decide +kernel)
set_option maxRecDepth 20000 in
theorem gX8_points_X8_pointsAt : GoodIn wsX8_points (wsV RX8 168 RX8 yX8_pointsAt wsX8_pointsAt) := goodIn_app (goodIn_of _ (by decide +kernel)) ggX8_points_X8_pointsAt
theorem dX8_points_0 : decode cX8_points 0 = .ok (.aload_n 0, 1) := by decide +kernel
theorem dX8_points_1 : decode cX8_points 1 = .ok (.iload_n 1, 1) := by decide +kernel
theorem dX8_points_2 : decode cX8_points 2 = .ok (.invokevirtual 129, 3) := by decide +kernel
theorem dX8_points_5 : decode cX8_points 5 = .ok (.ifCond .eq 17, 3) := by decide +kernel
theorem dX8_points_8 : decode cX8_points 8 = .ok (.iload_n 2, 1) := by decide +kernel
theorem dX8_points_9 : decode cX8_points 9 = .ok (.invokestatic 143, 3) := by decide +kernel
theorem dX8_points_12 : decode cX8_points 12 = .ok (.ifCond .eq 10, 3) := by decide +kernel
theorem dX8_points_15 : decode cX8_points 15 = .ok (.iload_n 3, 1) := by decide +kernel
theorem dX8_points_16 : decode cX8_points 16 = .ok (.invokestatic 143, 3) := by decide +kernel
theorem dX8_points_19 : decode cX8_points 19 = .ok (.ifCond .ne 5, 3) := by decide +kernel
theorem dX8_points_22 : decode cX8_points 22 = .ok (.iconst (-1), 1) := by decide +kernel
theorem dX8_points_23 : decode cX8_points 23 = .ok (.ireturn, 1) := by decide +kernel
theorem dX8_points_24 : decode cX8_points 24 = .ok (.aload_n 0, 1) := by decide +kernel
theorem dX8_points_25 : decode cX8_points 25 = .ok (.iload_n 2, 1) := by decide +kernel
theorem dX8_points_26 : decode cX8_points 26 = .ok (.iload_n 3, 1) := by decide +kernel
theorem dX8_points_27 : decode cX8_points 27 = .ok (.invokevirtual 168, 3) := by decide +kernel
theorem dX8_points_30 : decode cX8_points 30 = .ok (.aload_n 0, 1) := by decide +kernel
theorem dX8_points_31 : decode cX8_points 31 = .ok (.getfield 83, 3) := by decide +kernel
theorem dX8_points_34 : decode cX8_points 34 = .ok (.iload_n 1, 1) := by decide +kernel
theorem dX8_points_35 : decode cX8_points 35 = .ok (.iaload, 1) := by decide +kernel
theorem dX8_points_36 : decode cX8_points 36 = .ok (.ireturn, 1) := by decide +kernel
set_option maxRecDepth 20000 in
theorem ggX8_share_X8_isCanon : GoodIn wsX8_share wsX8_isCanon := goodIn_sl _ [(6, 4), (5, 1), (10, 1), (44, 51)] rfl (by decide +kernel)
set_option maxRecDepth 20000 in
theorem gX8_share_X8_isCanon : GoodIn wsX8_share (wsV RX8 129 RX8 yX8_isCanon wsX8_isCanon) := goodIn_app (goodIn_of _ (by decide +kernel)) ggX8_share_X8_isCanon
set_option maxRecDepth 20000 in
theorem ggX8_share_X8_isDay : GoodIn wsX8_share wsX8_isDay := goodIn_sl _ [(13, 1), (8, 2), (5, 1), (10, 1)] rfl (by decide +kernel)
set_option maxRecDepth 20000 in
theorem gX8_share_X8_isDay : GoodIn wsX8_share (va_wsS RX8 143 yX8_isDay wsX8_isDay) := goodIn_app (goodIn_of _ (by decide +kernel)) ggX8_share_X8_isDay
set_option maxRecDepth 20000 in
theorem ggX8_share_X8_sharesAt : GoodIn wsX8_share wsX8_sharesAt := goodIn_sl _ [(17, 2), (7, 1), (1, 1), (19, 5), (5, 1), (24, 71)] rfl (by decide +kernel)
set_option maxRecDepth 20000 in
theorem gX8_share_X8_sharesAt : GoodIn wsX8_share (wsV RX8 172 RX8 yX8_sharesAt wsX8_sharesAt) := goodIn_app (goodIn_of _ (by decide +kernel)) ggX8_share_X8_sharesAt
theorem dX8_share_0 : decode cX8_share 0 = .ok (.aload_n 0, 1) := by decide +kernel
theorem dX8_share_1 : decode cX8_share 1 = .ok (.iload_n 1, 1) := by decide +kernel
theorem dX8_share_2 : decode cX8_share 2 = .ok (.invokevirtual 129, 3) := by decide +kernel
theorem dX8_share_5 : decode cX8_share 5 = .ok (.ifCond .eq 17, 3) := by decide +kernel
theorem dX8_share_8 : decode cX8_share 8 = .ok (.iload_n 2, 1) := by decide +kernel
theorem dX8_share_9 : decode cX8_share 9 = .ok (.invokestatic 143, 3) := by decide +kernel
theorem dX8_share_12 : decode cX8_share 12 = .ok (.ifCond .eq 10, 3) := by decide +kernel
theorem dX8_share_15 : decode cX8_share 15 = .ok (.iload_n 3, 1) := by decide +kernel
theorem dX8_share_16 : decode cX8_share 16 = .ok (.invokestatic 143, 3) := by decide +kernel
theorem dX8_share_19 : decode cX8_share 19 = .ok (.ifCond .ne 5, 3) := by decide +kernel
theorem dX8_share_22 : decode cX8_share 22 = .ok (.iconst (-1), 1) := by decide +kernel
theorem dX8_share_23 : decode cX8_share 23 = .ok (.ireturn, 1) := by decide +kernel
theorem dX8_share_24 : decode cX8_share 24 = .ok (.aload_n 0, 1) := by decide +kernel
theorem dX8_share_25 : decode cX8_share 25 = .ok (.iload_n 2, 1) := by decide +kernel
theorem dX8_share_26 : decode cX8_share 26 = .ok (.iload_n 3, 1) := by decide +kernel
theorem dX8_share_27 : decode cX8_share 27 = .ok (.invokevirtual 172, 3) := by decide +kernel
theorem dX8_share_30 : decode cX8_share 30 = .ok (.pop, 1) := by decide +kernel
theorem dX8_share_31 : decode cX8_share 31 = .ok (.aload_n 0, 1) := by decide +kernel
theorem dX8_share_32 : decode cX8_share 32 = .ok (.getfield 86, 3) := by decide +kernel
theorem dX8_share_35 : decode cX8_share 35 = .ok (.iload_n 1, 1) := by decide +kernel
theorem dX8_share_36 : decode cX8_share 36 = .ok (.iaload, 1) := by decide +kernel
theorem dX8_share_37 : decode cX8_share 37 = .ok (.ireturn, 1) := by decide +kernel
set_option maxRecDepth 20000 in
theorem ggX8_night_X8_sharesAt : GoodIn wsX8_night wsX8_sharesAt := goodIn_sl _ [(14, 2), (3, 1), (5, 1), (16, 5), (13, 1), (21, 71)] rfl (by decide +kernel)
set_option maxRecDepth 20000 in
theorem gX8_night_X8_sharesAt : GoodIn wsX8_night (wsV RX8 172 RX8 yX8_sharesAt wsX8_sharesAt) := goodIn_app (goodIn_of _ (by decide +kernel)) ggX8_night_X8_sharesAt
theorem dX8_night_0 : decode cX8_night 0 = .ok (.aload_n 0, 1) := by decide +kernel
theorem dX8_night_1 : decode cX8_night 1 = .ok (.getfield 122, 3) := by decide +kernel
theorem dX8_night_4 : decode cX8_night 4 = .ok (.sipush 400, 3) := by decide +kernel
theorem dX8_night_7 : decode cX8_night 7 = .ok (.if_icmp .ne 5, 3) := by decide +kernel
theorem dX8_night_10 : decode cX8_night 10 = .ok (.iconst (-1), 1) := by decide +kernel
theorem dX8_night_11 : decode cX8_night 11 = .ok (.ireturn, 1) := by decide +kernel
theorem dX8_night_12 : decode cX8_night 12 = .ok (.aload_n 0, 1) := by decide +kernel
theorem dX8_night_13 : decode cX8_night 13 = .ok (.dup, 1) := by decide +kernel
theorem dX8_night_14 : decode cX8_night 14 = .ok (.getfield 175, 3) := by decide +kernel
theorem dX8_night_17 : decode cX8_night 17 = .ok (.aload_n 0, 1) := by decide +kernel
theorem dX8_night_18 : decode cX8_night 18 = .ok (.aload_n 0, 1) := by decide +kernel
theorem dX8_night_19 : decode cX8_night 19 = .ok (.getfield 122, 3) := by decide +kernel
theorem dX8_night_22 : decode cX8_night 22 = .ok (.aload_n 0, 1) := by decide +kernel
theorem dX8_night_23 : decode cX8_night 23 = .ok (.getfield 122, 3) := by decide +kernel
theorem dX8_night_26 : decode cX8_night 26 = .ok (.invokevirtual 172, 3) := by decide +kernel
theorem dX8_night_29 : decode cX8_night 29 = .ok (.iadd, 1) := by decide +kernel
theorem dX8_night_30 : decode cX8_night 30 = .ok (.putfield 175, 3) := by decide +kernel
theorem dX8_night_33 : decode cX8_night 33 = .ok (.iconst 0, 1) := by decide +kernel
theorem dX8_night_34 : decode cX8_night 34 = .ok (.istore_n 1, 1) := by decide +kernel
theorem dX8_night_35 : decode cX8_night 35 = .ok (.iload_n 1, 1) := by decide +kernel
theorem dX8_night_36 : decode cX8_night 36 = .ok (.aload_n 0, 1) := by decide +kernel
theorem dX8_night_37 : decode cX8_night 37 = .ok (.getfield 112, 3) := by decide +kernel
theorem dX8_night_40 : decode cX8_night 40 = .ok (.if_icmp .ge 73, 3) := by decide +kernel
theorem dX8_night_43 : decode cX8_night 43 = .ok (.aload_n 0, 1) := by decide +kernel
theorem dX8_night_44 : decode cX8_night 44 = .ok (.getfield 53, 3) := by decide +kernel
theorem dX8_night_47 : decode cX8_night 47 = .ok (.bipush 20, 2) := by decide +kernel
theorem dX8_night_49 : decode cX8_night 49 = .ok (.aload_n 0, 1) := by decide +kernel
theorem dX8_night_50 : decode cX8_night 50 = .ok (.getfield 122, 3) := by decide +kernel
theorem dX8_night_53 : decode cX8_night 53 = .ok (.imul, 1) := by decide +kernel
theorem dX8_night_54 : decode cX8_night 54 = .ok (.iload_n 1, 1) := by decide +kernel
theorem dX8_night_55 : decode cX8_night 55 = .ok (.iadd, 1) := by decide +kernel
theorem dX8_night_56 : decode cX8_night 56 = .ok (.aload_n 0, 1) := by decide +kernel
theorem dX8_night_57 : decode cX8_night 57 = .ok (.getfield 86, 3) := by decide +kernel
theorem dX8_night_60 : decode cX8_night 60 = .ok (.iload_n 1, 1) := by decide +kernel
theorem dX8_night_61 : decode cX8_night 61 = .ok (.iaload, 1) := by decide +kernel
theorem dX8_night_62 : decode cX8_night 62 = .ok (.iastore, 1) := by decide +kernel
theorem dX8_night_63 : decode cX8_night 63 = .ok (.aload_n 0, 1) := by decide +kernel
theorem dX8_night_64 : decode cX8_night 64 = .ok (.getfield 26, 3) := by decide +kernel
theorem dX8_night_67 : decode cX8_night 67 = .ok (.iload_n 1, 1) := by decide +kernel
theorem dX8_night_68 : decode cX8_night 68 = .ok (.dup2, 1) := by decide +kernel
theorem dX8_night_69 : decode cX8_night 69 = .ok (.iaload, 1) := by decide +kernel
theorem dX8_night_70 : decode cX8_night 70 = .ok (.aload_n 0, 1) := by decide +kernel
theorem dX8_night_71 : decode cX8_night 71 = .ok (.getfield 86, 3) := by decide +kernel
theorem dX8_night_74 : decode cX8_night 74 = .ok (.iload_n 1, 1) := by decide +kernel
theorem dX8_night_75 : decode cX8_night 75 = .ok (.iaload, 1) := by decide +kernel
theorem dX8_night_76 : decode cX8_night 76 = .ok (.iadd, 1) := by decide +kernel
theorem dX8_night_77 : decode cX8_night 77 = .ok (.iastore, 1) := by decide +kernel
theorem dX8_night_78 : decode cX8_night 78 = .ok (.aload_n 0, 1) := by decide +kernel
theorem dX8_night_79 : decode cX8_night 79 = .ok (.getfield 20, 3) := by decide +kernel
theorem dX8_night_82 : decode cX8_night 82 = .ok (.iload_n 1, 1) := by decide +kernel
theorem dX8_night_83 : decode cX8_night 83 = .ok (.iaload, 1) := by decide +kernel
theorem dX8_night_84 : decode cX8_night 84 = .ok (.ifCond .lt 23, 3) := by decide +kernel
theorem dX8_night_87 : decode cX8_night 87 = .ok (.aload_n 0, 1) := by decide +kernel
theorem dX8_night_88 : decode cX8_night 88 = .ok (.getfield 29, 3) := by decide +kernel
theorem dX8_night_91 : decode cX8_night 91 = .ok (.iload_n 1, 1) := by decide +kernel
theorem dX8_night_92 : decode cX8_night 92 = .ok (.dup2, 1) := by decide +kernel
theorem dX8_night_93 : decode cX8_night 93 = .ok (.iaload, 1) := by decide +kernel
theorem dX8_night_94 : decode cX8_night 94 = .ok (.aload_n 0, 1) := by decide +kernel
theorem dX8_night_95 : decode cX8_night 95 = .ok (.getfield 7, 3) := by decide +kernel
theorem dX8_night_98 : decode cX8_night 98 = .ok (.aload_n 0, 1) := by decide +kernel
theorem dX8_night_99 : decode cX8_night 99 = .ok (.getfield 20, 3) := by decide +kernel
theorem dX8_night_102 : decode cX8_night 102 = .ok (.iload_n 1, 1) := by decide +kernel
theorem dX8_night_103 : decode cX8_night 103 = .ok (.iaload, 1) := by decide +kernel
theorem dX8_night_104 : decode cX8_night 104 = .ok (.iaload, 1) := by decide +kernel
theorem dX8_night_105 : decode cX8_night 105 = .ok (.iadd, 1) := by decide +kernel
theorem dX8_night_106 : decode cX8_night 106 = .ok (.iastore, 1) := by decide +kernel
theorem dX8_night_107 : decode cX8_night 107 = .ok (.iinc 1 1, 3) := by decide +kernel
theorem dX8_night_110 : decode cX8_night 110 = .ok (.goto (-75), 3) := by decide +kernel
theorem dX8_night_113 : decode cX8_night 113 = .ok (.aload_n 0, 1) := by decide +kernel
theorem dX8_night_114 : decode cX8_night 114 = .ok (.dup, 1) := by decide +kernel
theorem dX8_night_115 : decode cX8_night 115 = .ok (.getfield 122, 3) := by decide +kernel
theorem dX8_night_118 : decode cX8_night 118 = .ok (.iconst 1, 1) := by decide +kernel
theorem dX8_night_119 : decode cX8_night 119 = .ok (.iadd, 1) := by decide +kernel
theorem dX8_night_120 : decode cX8_night 120 = .ok (.putfield 122, 3) := by decide +kernel
theorem dX8_night_123 : decode cX8_night 123 = .ok (.aload_n 0, 1) := by decide +kernel
theorem dX8_night_124 : decode cX8_night 124 = .ok (.getfield 122, 3) := by decide +kernel
theorem dX8_night_127 : decode cX8_night 127 = .ok (.ireturn, 1) := by decide +kernel
set_option maxRecDepth 20000 in
theorem ggX8_paid_X8_isCanon : GoodIn wsX8_paid wsX8_isCanon := goodIn_sl _ [(7, 4), (6, 1), (11, 52)] rfl (by decide +kernel)
set_option maxRecDepth 20000 in
theorem gX8_paid_X8_isCanon : GoodIn wsX8_paid (wsV RX8 129 RX8 yX8_isCanon wsX8_isCanon) := goodIn_app (goodIn_of _ (by decide +kernel)) ggX8_paid_X8_isCanon
set_option maxRecDepth 20000 in
theorem ggX8_paid_X8_in : GoodIn wsX8_paid wsX8_in := goodIn_sl _ [(11, 1)] rfl (by decide +kernel)
set_option maxRecDepth 20000 in
theorem gX8_paid_X8_in : GoodIn wsX8_paid (va_wsS RX8 108 yX8_in wsX8_in) := goodIn_app (goodIn_of _ (by decide +kernel)) ggX8_paid_X8_in
theorem dX8_paid_0 : decode cX8_paid 0 = .ok (.aload_n 0, 1) := by decide +kernel
theorem dX8_paid_1 : decode cX8_paid 1 = .ok (.iload_n 1, 1) := by decide +kernel
theorem dX8_paid_2 : decode cX8_paid 2 = .ok (.invokevirtual 129, 3) := by decide +kernel
theorem dX8_paid_5 : decode cX8_paid 5 = .ok (.ifCond .eq 31, 3) := by decide +kernel
theorem dX8_paid_8 : decode cX8_paid 8 = .ok (.iload_n 2, 1) := by decide +kernel
theorem dX8_paid_9 : decode cX8_paid 9 = .ok (.iconst 0, 1) := by decide +kernel
theorem dX8_paid_10 : decode cX8_paid 10 = .ok (.aload_n 0, 1) := by decide +kernel
theorem dX8_paid_11 : decode cX8_paid 11 = .ok (.getfield 122, 3) := by decide +kernel
theorem dX8_paid_14 : decode cX8_paid 14 = .ok (.iconst 1, 1) := by decide +kernel
theorem dX8_paid_15 : decode cX8_paid 15 = .ok (.isub, 1) := by decide +kernel
theorem dX8_paid_16 : decode cX8_paid 16 = .ok (.invokestatic 108, 3) := by decide +kernel
theorem dX8_paid_19 : decode cX8_paid 19 = .ok (.ifCond .eq 17, 3) := by decide +kernel
theorem dX8_paid_22 : decode cX8_paid 22 = .ok (.aload_n 0, 1) := by decide +kernel
theorem dX8_paid_23 : decode cX8_paid 23 = .ok (.getfield 53, 3) := by decide +kernel
theorem dX8_paid_26 : decode cX8_paid 26 = .ok (.bipush 20, 2) := by decide +kernel
theorem dX8_paid_28 : decode cX8_paid 28 = .ok (.iload_n 2, 1) := by decide +kernel
theorem dX8_paid_29 : decode cX8_paid 29 = .ok (.imul, 1) := by decide +kernel
theorem dX8_paid_30 : decode cX8_paid 30 = .ok (.iload_n 1, 1) := by decide +kernel
theorem dX8_paid_31 : decode cX8_paid 31 = .ok (.iadd, 1) := by decide +kernel
theorem dX8_paid_32 : decode cX8_paid 32 = .ok (.iaload, 1) := by decide +kernel
theorem dX8_paid_33 : decode cX8_paid 33 = .ok (.goto 4, 3) := by decide +kernel
theorem dX8_paid_36 : decode cX8_paid 36 = .ok (.iconst (-1), 1) := by decide +kernel
theorem dX8_paid_37 : decode cX8_paid 37 = .ok (.ireturn, 1) := by decide +kernel
set_option maxRecDepth 20000 in
theorem ggX8_back_X8_isCanon : GoodIn wsX8_back wsX8_isCanon := goodIn_sl _ [(8, 4), (7, 1), (12, 1), (43, 51)] rfl (by decide +kernel)
set_option maxRecDepth 20000 in
theorem gX8_back_X8_isCanon : GoodIn wsX8_back (wsV RX8 129 RX8 yX8_isCanon wsX8_isCanon) := goodIn_app (goodIn_of _ (by decide +kernel)) ggX8_back_X8_isCanon
set_option maxRecDepth 20000 in
theorem ggX8_back_X8_sharesAt : GoodIn wsX8_back wsX8_sharesAt := goodIn_sl _ [(16, 2), (9, 1), (2, 1), (18, 5), (7, 1), (23, 71)] rfl (by decide +kernel)
set_option maxRecDepth 20000 in
theorem gX8_back_X8_sharesAt : GoodIn wsX8_back (wsV RX8 172 RX8 yX8_sharesAt wsX8_sharesAt) := goodIn_app (goodIn_of _ (by decide +kernel)) ggX8_back_X8_sharesAt
theorem dX8_back_0 : decode cX8_back 0 = .ok (.aload_n 0, 1) := by decide +kernel
theorem dX8_back_1 : decode cX8_back 1 = .ok (.iload_n 1, 1) := by decide +kernel
theorem dX8_back_2 : decode cX8_back 2 = .ok (.invokevirtual 129, 3) := by decide +kernel
theorem dX8_back_5 : decode cX8_back 5 = .ok (.ifCond .ne 5, 3) := by decide +kernel
theorem dX8_back_8 : decode cX8_back 8 = .ok (.iconst 0, 1) := by decide +kernel
theorem dX8_back_9 : decode cX8_back 9 = .ok (.ireturn, 1) := by decide +kernel
theorem dX8_back_10 : decode cX8_back 10 = .ok (.iconst 0, 1) := by decide +kernel
theorem dX8_back_11 : decode cX8_back 11 = .ok (.istore_n 2, 1) := by decide +kernel
theorem dX8_back_12 : decode cX8_back 12 = .ok (.iconst 0, 1) := by decide +kernel
theorem dX8_back_13 : decode cX8_back 13 = .ok (.istore_n 3, 1) := by decide +kernel
theorem dX8_back_14 : decode cX8_back 14 = .ok (.iload_n 3, 1) := by decide +kernel
theorem dX8_back_15 : decode cX8_back 15 = .ok (.aload_n 0, 1) := by decide +kernel
theorem dX8_back_16 : decode cX8_back 16 = .ok (.getfield 122, 3) := by decide +kernel
theorem dX8_back_19 : decode cX8_back 19 = .ok (.if_icmp .ge 40, 3) := by decide +kernel
theorem dX8_back_22 : decode cX8_back 22 = .ok (.aload_n 0, 1) := by decide +kernel
theorem dX8_back_23 : decode cX8_back 23 = .ok (.iload_n 3, 1) := by decide +kernel
theorem dX8_back_24 : decode cX8_back 24 = .ok (.aload_n 0, 1) := by decide +kernel
theorem dX8_back_25 : decode cX8_back 25 = .ok (.getfield 122, 3) := by decide +kernel
theorem dX8_back_28 : decode cX8_back 28 = .ok (.invokevirtual 172, 3) := by decide +kernel
theorem dX8_back_31 : decode cX8_back 31 = .ok (.pop, 1) := by decide +kernel
theorem dX8_back_32 : decode cX8_back 32 = .ok (.iload_n 2, 1) := by decide +kernel
theorem dX8_back_33 : decode cX8_back 33 = .ok (.aload_n 0, 1) := by decide +kernel
theorem dX8_back_34 : decode cX8_back 34 = .ok (.getfield 86, 3) := by decide +kernel
theorem dX8_back_37 : decode cX8_back 37 = .ok (.iload_n 1, 1) := by decide +kernel
theorem dX8_back_38 : decode cX8_back 38 = .ok (.iaload, 1) := by decide +kernel
theorem dX8_back_39 : decode cX8_back 39 = .ok (.aload_n 0, 1) := by decide +kernel
theorem dX8_back_40 : decode cX8_back 40 = .ok (.getfield 53, 3) := by decide +kernel
theorem dX8_back_43 : decode cX8_back 43 = .ok (.bipush 20, 2) := by decide +kernel
theorem dX8_back_45 : decode cX8_back 45 = .ok (.iload_n 3, 1) := by decide +kernel
theorem dX8_back_46 : decode cX8_back 46 = .ok (.imul, 1) := by decide +kernel
theorem dX8_back_47 : decode cX8_back 47 = .ok (.iload_n 1, 1) := by decide +kernel
theorem dX8_back_48 : decode cX8_back 48 = .ok (.iadd, 1) := by decide +kernel
theorem dX8_back_49 : decode cX8_back 49 = .ok (.iaload, 1) := by decide +kernel
theorem dX8_back_50 : decode cX8_back 50 = .ok (.isub, 1) := by decide +kernel
theorem dX8_back_51 : decode cX8_back 51 = .ok (.iadd, 1) := by decide +kernel
theorem dX8_back_52 : decode cX8_back 52 = .ok (.istore_n 2, 1) := by decide +kernel
theorem dX8_back_53 : decode cX8_back 53 = .ok (.iinc 3 1, 3) := by decide +kernel
theorem dX8_back_56 : decode cX8_back 56 = .ok (.goto (-42), 3) := by decide +kernel
theorem dX8_back_59 : decode cX8_back 59 = .ok (.iload_n 2, 1) := by decide +kernel
theorem dX8_back_60 : decode cX8_back 60 = .ok (.ireturn, 1) := by decide +kernel
theorem dX8_four_0 : decode cX8_four 0 = .ok (.bipush 24, 2) := by decide +kernel
theorem dX8_four_2 : decode cX8_four 2 = .ok (.istore_n 2, 1) := by decide +kernel
theorem dX8_four_3 : decode cX8_four 3 = .ok (.iload_n 2, 1) := by decide +kernel
theorem dX8_four_4 : decode cX8_four 4 = .ok (.ifCond .lt 32, 3) := by decide +kernel
theorem dX8_four_7 : decode cX8_four 7 = .ok (.aload_n 0, 1) := by decide +kernel
theorem dX8_four_8 : decode cX8_four 8 = .ok (.getfield 89, 3) := by decide +kernel
theorem dX8_four_11 : decode cX8_four 11 = .ok (.aload_n 0, 1) := by decide +kernel
theorem dX8_four_12 : decode cX8_four 12 = .ok (.getfield 178, 3) := by decide +kernel
theorem dX8_four_15 : decode cX8_four 15 = .ok (.iload_n 1, 1) := by decide +kernel
theorem dX8_four_16 : decode cX8_four 16 = .ok (.iload_n 2, 1) := by decide +kernel
theorem dX8_four_17 : decode cX8_four 17 = .ok (.ishr, 1) := by decide +kernel
theorem dX8_four_18 : decode cX8_four 18 = .ok (.i2b, 1) := by decide +kernel
theorem dX8_four_19 : decode cX8_four 19 = .ok (.bastore, 1) := by decide +kernel
theorem dX8_four_20 : decode cX8_four 20 = .ok (.aload_n 0, 1) := by decide +kernel
theorem dX8_four_21 : decode cX8_four 21 = .ok (.dup, 1) := by decide +kernel
theorem dX8_four_22 : decode cX8_four 22 = .ok (.getfield 178, 3) := by decide +kernel
theorem dX8_four_25 : decode cX8_four 25 = .ok (.iconst 1, 1) := by decide +kernel
theorem dX8_four_26 : decode cX8_four 26 = .ok (.iadd, 1) := by decide +kernel
theorem dX8_four_27 : decode cX8_four 27 = .ok (.putfield 178, 3) := by decide +kernel
theorem dX8_four_30 : decode cX8_four 30 = .ok (.iinc 2 (-8), 3) := by decide +kernel
theorem dX8_four_33 : decode cX8_four 33 = .ok (.goto (-30), 3) := by decide +kernel
theorem dX8_four_36 : decode cX8_four 36 = .ok (.return_, 1) := by decide +kernel
set_option maxRecDepth 20000 in
theorem ggX8_feed_X8_four : GoodIn wsX8_feed wsX8_four := goodIn_sl _ [(6, 2), (1, 1), (8, 51)] rfl (by decide +kernel)
set_option maxRecDepth 20000 in
theorem gX8_feed_X8_four : GoodIn wsX8_feed (wsV RX8 181 RX8 yX8_four wsX8_four) := goodIn_app (goodIn_of _ (by decide +kernel)) ggX8_feed_X8_four
theorem dX8_feed_0 : decode cX8_feed 0 = .ok (.aload_n 0, 1) := by decide +kernel
theorem dX8_feed_1 : decode cX8_feed 1 = .ok (.getfield 178, 3) := by decide +kernel
theorem dX8_feed_4 : decode cX8_feed 4 = .ok (.bipush 20, 2) := by decide +kernel
theorem dX8_feed_6 : decode cX8_feed 6 = .ok (.iadd, 1) := by decide +kernel
theorem dX8_feed_7 : decode cX8_feed 7 = .ok (.sipush 200, 3) := by decide +kernel
theorem dX8_feed_10 : decode cX8_feed 10 = .ok (.if_icmp .le 5, 3) := by decide +kernel
theorem dX8_feed_13 : decode cX8_feed 13 = .ok (.iconst (-1), 1) := by decide +kernel
theorem dX8_feed_14 : decode cX8_feed 14 = .ok (.ireturn, 1) := by decide +kernel
theorem dX8_feed_15 : decode cX8_feed 15 = .ok (.aload_n 0, 1) := by decide +kernel
theorem dX8_feed_16 : decode cX8_feed 16 = .ok (.iload_n 1, 1) := by decide +kernel
theorem dX8_feed_17 : decode cX8_feed 17 = .ok (.invokevirtual 181, 3) := by decide +kernel
theorem dX8_feed_20 : decode cX8_feed 20 = .ok (.aload_n 0, 1) := by decide +kernel
theorem dX8_feed_21 : decode cX8_feed 21 = .ok (.iload_n 2, 1) := by decide +kernel
theorem dX8_feed_22 : decode cX8_feed 22 = .ok (.invokevirtual 181, 3) := by decide +kernel
theorem dX8_feed_25 : decode cX8_feed 25 = .ok (.aload_n 0, 1) := by decide +kernel
theorem dX8_feed_26 : decode cX8_feed 26 = .ok (.iload_n 3, 1) := by decide +kernel
theorem dX8_feed_27 : decode cX8_feed 27 = .ok (.invokevirtual 181, 3) := by decide +kernel
theorem dX8_feed_30 : decode cX8_feed 30 = .ok (.aload_n 0, 1) := by decide +kernel
theorem dX8_feed_31 : decode cX8_feed 31 = .ok (.iload 4, 2) := by decide +kernel
theorem dX8_feed_33 : decode cX8_feed 33 = .ok (.invokevirtual 181, 3) := by decide +kernel
theorem dX8_feed_36 : decode cX8_feed 36 = .ok (.aload_n 0, 1) := by decide +kernel
theorem dX8_feed_37 : decode cX8_feed 37 = .ok (.iload 5, 2) := by decide +kernel
theorem dX8_feed_39 : decode cX8_feed 39 = .ok (.invokevirtual 181, 3) := by decide +kernel
theorem dX8_feed_42 : decode cX8_feed 42 = .ok (.aload_n 0, 1) := by decide +kernel
theorem dX8_feed_43 : decode cX8_feed 43 = .ok (.getfield 178, 3) := by decide +kernel
theorem dX8_feed_46 : decode cX8_feed 46 = .ok (.ireturn, 1) := by decide +kernel
theorem dX8_end_0 : decode cX8_end 0 = .ok (.iload_n 1, 1) := by decide +kernel
theorem dX8_end_1 : decode cX8_end 1 = .ok (.ifCond .lt 11, 3) := by decide +kernel
theorem dX8_end_4 : decode cX8_end 4 = .ok (.iload_n 1, 1) := by decide +kernel
theorem dX8_end_5 : decode cX8_end 5 = .ok (.aload_n 0, 1) := by decide +kernel
theorem dX8_end_6 : decode cX8_end 6 = .ok (.getfield 178, 3) := by decide +kernel
theorem dX8_end_9 : decode cX8_end 9 = .ok (.if_icmp .le 5, 3) := by decide +kernel
theorem dX8_end_12 : decode cX8_end 12 = .ok (.iconst (-1), 1) := by decide +kernel
theorem dX8_end_13 : decode cX8_end 13 = .ok (.ireturn, 1) := by decide +kernel
theorem dX8_end_14 : decode cX8_end 14 = .ok (.aload_n 0, 1) := by decide +kernel
theorem dX8_end_15 : decode cX8_end 15 = .ok (.iload_n 1, 1) := by decide +kernel
theorem dX8_end_16 : decode cX8_end 16 = .ok (.putfield 178, 3) := by decide +kernel
theorem dX8_end_19 : decode cX8_end 19 = .ok (.iload_n 1, 1) := by decide +kernel
theorem dX8_end_20 : decode cX8_end 20 = .ok (.ireturn, 1) := by decide +kernel
theorem dX8_fails_0 : decode cX8_fails 0 = .ok (.aload_n 0, 1) := by decide +kernel
theorem dX8_fails_1 : decode cX8_fails 1 = .ok (.getfield 184, 3) := by decide +kernel
theorem dX8_fails_4 : decode cX8_fails 4 = .ok (.ifCond .ne 15, 3) := by decide +kernel
theorem dX8_fails_7 : decode cX8_fails 7 = .ok (.aload_n 0, 1) := by decide +kernel
theorem dX8_fails_8 : decode cX8_fails 8 = .ok (.iconst 1, 1) := by decide +kernel
theorem dX8_fails_9 : decode cX8_fails 9 = .ok (.bipush 8, 2) := by decide +kernel
theorem dX8_fails_11 : decode cX8_fails 11 = .ok (.iload_n 2, 1) := by decide +kernel
theorem dX8_fails_12 : decode cX8_fails 12 = .ok (.imul, 1) := by decide +kernel
theorem dX8_fails_13 : decode cX8_fails 13 = .ok (.iadd, 1) := by decide +kernel
theorem dX8_fails_14 : decode cX8_fails 14 = .ok (.iload_n 1, 1) := by decide +kernel
theorem dX8_fails_15 : decode cX8_fails 15 = .ok (.iadd, 1) := by decide +kernel
theorem dX8_fails_16 : decode cX8_fails 16 = .ok (.putfield 184, 3) := by decide +kernel
theorem dX8_fails_19 : decode cX8_fails 19 = .ok (.iconst 0, 1) := by decide +kernel
theorem dX8_fails_20 : decode cX8_fails 20 = .ok (.ireturn, 1) := by decide +kernel
theorem dX8_see_0 : decode cX8_see 0 = .ok (.aload_n 0, 1) := by decide +kernel
theorem dX8_see_1 : decode cX8_see 1 = .ok (.getfield 187, 3) := by decide +kernel
theorem dX8_see_4 : decode cX8_see 4 = .ok (.aload_n 0, 1) := by decide +kernel
theorem dX8_see_5 : decode cX8_see 5 = .ok (.getfield 178, 3) := by decide +kernel
theorem dX8_see_8 : decode cX8_see 8 = .ok (.if_icmp .ge 30, 3) := by decide +kernel
theorem dX8_see_11 : decode cX8_see 11 = .ok (.aload_n 0, 1) := by decide +kernel
theorem dX8_see_12 : decode cX8_see 12 = .ok (.getfield 89, 3) := by decide +kernel
theorem dX8_see_15 : decode cX8_see 15 = .ok (.aload_n 0, 1) := by decide +kernel
theorem dX8_see_16 : decode cX8_see 16 = .ok (.getfield 187, 3) := by decide +kernel
theorem dX8_see_19 : decode cX8_see 19 = .ok (.baload, 1) := by decide +kernel
theorem dX8_see_20 : decode cX8_see 20 = .ok (.bipush 32, 2) := by decide +kernel
theorem dX8_see_22 : decode cX8_see 22 = .ok (.if_icmp .ne 16, 3) := by decide +kernel
theorem dX8_see_25 : decode cX8_see 25 = .ok (.aload_n 0, 1) := by decide +kernel
theorem dX8_see_26 : decode cX8_see 26 = .ok (.dup, 1) := by decide +kernel
theorem dX8_see_27 : decode cX8_see 27 = .ok (.getfield 187, 3) := by decide +kernel
theorem dX8_see_30 : decode cX8_see 30 = .ok (.iconst 1, 1) := by decide +kernel
theorem dX8_see_31 : decode cX8_see 31 = .ok (.iadd, 1) := by decide +kernel
theorem dX8_see_32 : decode cX8_see 32 = .ok (.putfield 187, 3) := by decide +kernel
theorem dX8_see_35 : decode cX8_see 35 = .ok (.goto (-35), 3) := by decide +kernel
theorem dX8_see_38 : decode cX8_see 38 = .ok (.aload_n 0, 1) := by decide +kernel
theorem dX8_see_39 : decode cX8_see 39 = .ok (.getfield 187, 3) := by decide +kernel
theorem dX8_see_42 : decode cX8_see 42 = .ok (.aload_n 0, 1) := by decide +kernel
theorem dX8_see_43 : decode cX8_see 43 = .ok (.getfield 178, 3) := by decide +kernel
theorem dX8_see_46 : decode cX8_see 46 = .ok (.if_icmp .ge 19, 3) := by decide +kernel
theorem dX8_see_49 : decode cX8_see 49 = .ok (.aload_n 0, 1) := by decide +kernel
theorem dX8_see_50 : decode cX8_see 50 = .ok (.getfield 89, 3) := by decide +kernel
theorem dX8_see_53 : decode cX8_see 53 = .ok (.aload_n 0, 1) := by decide +kernel
theorem dX8_see_54 : decode cX8_see 54 = .ok (.getfield 187, 3) := by decide +kernel
theorem dX8_see_57 : decode cX8_see 57 = .ok (.baload, 1) := by decide +kernel
theorem dX8_see_58 : decode cX8_see 58 = .ok (.sipush 255, 3) := by decide +kernel
theorem dX8_see_61 : decode cX8_see 61 = .ok (.iand, 1) := by decide +kernel
theorem dX8_see_62 : decode cX8_see 62 = .ok (.goto 4, 3) := by decide +kernel
theorem dX8_see_65 : decode cX8_see 65 = .ok (.iconst (-1), 1) := by decide +kernel
theorem dX8_see_66 : decode cX8_see 66 = .ok (.ireturn, 1) := by decide +kernel
theorem dX8_wordHere_0 : decode cX8_wordHere 0 = .ok (.aload_n 0, 1) := by decide +kernel
theorem dX8_wordHere_1 : decode cX8_wordHere 1 = .ok (.iconst 0, 1) := by decide +kernel
theorem dX8_wordHere_2 : decode cX8_wordHere 2 = .ok (.putfield 190, 3) := by decide +kernel
theorem dX8_wordHere_5 : decode cX8_wordHere 5 = .ok (.aload_n 0, 1) := by decide +kernel
theorem dX8_wordHere_6 : decode cX8_wordHere 6 = .ok (.getfield 187, 3) := by decide +kernel
theorem dX8_wordHere_9 : decode cX8_wordHere 9 = .ok (.aload_n 0, 1) := by decide +kernel
theorem dX8_wordHere_10 : decode cX8_wordHere 10 = .ok (.getfield 190, 3) := by decide +kernel
theorem dX8_wordHere_13 : decode cX8_wordHere 13 = .ok (.iadd, 1) := by decide +kernel
theorem dX8_wordHere_14 : decode cX8_wordHere 14 = .ok (.aload_n 0, 1) := by decide +kernel
theorem dX8_wordHere_15 : decode cX8_wordHere 15 = .ok (.getfield 178, 3) := by decide +kernel
theorem dX8_wordHere_18 : decode cX8_wordHere 18 = .ok (.if_icmp .ge 54, 3) := by decide +kernel
theorem dX8_wordHere_21 : decode cX8_wordHere 21 = .ok (.aload_n 0, 1) := by decide +kernel
theorem dX8_wordHere_22 : decode cX8_wordHere 22 = .ok (.getfield 89, 3) := by decide +kernel
theorem dX8_wordHere_25 : decode cX8_wordHere 25 = .ok (.aload_n 0, 1) := by decide +kernel
theorem dX8_wordHere_26 : decode cX8_wordHere 26 = .ok (.getfield 187, 3) := by decide +kernel
theorem dX8_wordHere_29 : decode cX8_wordHere 29 = .ok (.aload_n 0, 1) := by decide +kernel
theorem dX8_wordHere_30 : decode cX8_wordHere 30 = .ok (.getfield 190, 3) := by decide +kernel
theorem dX8_wordHere_33 : decode cX8_wordHere 33 = .ok (.iadd, 1) := by decide +kernel
theorem dX8_wordHere_34 : decode cX8_wordHere 34 = .ok (.baload, 1) := by decide +kernel
theorem dX8_wordHere_35 : decode cX8_wordHere 35 = .ok (.bipush 97, 2) := by decide +kernel
theorem dX8_wordHere_37 : decode cX8_wordHere 37 = .ok (.if_icmp .lt 35, 3) := by decide +kernel
theorem dX8_wordHere_40 : decode cX8_wordHere 40 = .ok (.aload_n 0, 1) := by decide +kernel
theorem dX8_wordHere_41 : decode cX8_wordHere 41 = .ok (.getfield 89, 3) := by decide +kernel
theorem dX8_wordHere_44 : decode cX8_wordHere 44 = .ok (.aload_n 0, 1) := by decide +kernel
theorem dX8_wordHere_45 : decode cX8_wordHere 45 = .ok (.getfield 187, 3) := by decide +kernel
theorem dX8_wordHere_48 : decode cX8_wordHere 48 = .ok (.aload_n 0, 1) := by decide +kernel
theorem dX8_wordHere_49 : decode cX8_wordHere 49 = .ok (.getfield 190, 3) := by decide +kernel
theorem dX8_wordHere_52 : decode cX8_wordHere 52 = .ok (.iadd, 1) := by decide +kernel
theorem dX8_wordHere_53 : decode cX8_wordHere 53 = .ok (.baload, 1) := by decide +kernel
theorem dX8_wordHere_54 : decode cX8_wordHere 54 = .ok (.bipush 122, 2) := by decide +kernel
theorem dX8_wordHere_56 : decode cX8_wordHere 56 = .ok (.if_icmp .gt 16, 3) := by decide +kernel
theorem dX8_wordHere_59 : decode cX8_wordHere 59 = .ok (.aload_n 0, 1) := by decide +kernel
theorem dX8_wordHere_60 : decode cX8_wordHere 60 = .ok (.dup, 1) := by decide +kernel
theorem dX8_wordHere_61 : decode cX8_wordHere 61 = .ok (.getfield 190, 3) := by decide +kernel
theorem dX8_wordHere_64 : decode cX8_wordHere 64 = .ok (.iconst 1, 1) := by decide +kernel
theorem dX8_wordHere_65 : decode cX8_wordHere 65 = .ok (.iadd, 1) := by decide +kernel
theorem dX8_wordHere_66 : decode cX8_wordHere 66 = .ok (.putfield 190, 3) := by decide +kernel
theorem dX8_wordHere_69 : decode cX8_wordHere 69 = .ok (.goto (-64), 3) := by decide +kernel
theorem dX8_wordHere_72 : decode cX8_wordHere 72 = .ok (.iconst 0, 1) := by decide +kernel
theorem dX8_wordHere_73 : decode cX8_wordHere 73 = .ok (.istore_n 1, 1) := by decide +kernel
theorem dX8_wordHere_74 : decode cX8_wordHere 74 = .ok (.iload_n 1, 1) := by decide +kernel
theorem dX8_wordHere_75 : decode cX8_wordHere 75 = .ok (.bipush 6, 2) := by decide +kernel
theorem dX8_wordHere_77 : decode cX8_wordHere 77 = .ok (.if_icmp .gt 118, 3) := by decide +kernel
theorem dX8_wordHere_80 : decode cX8_wordHere 80 = .ok (.aload_n 0, 1) := by decide +kernel
theorem dX8_wordHere_81 : decode cX8_wordHere 81 = .ok (.getfield 190, 3) := by decide +kernel
theorem dX8_wordHere_84 : decode cX8_wordHere 84 = .ok (.bipush 8, 2) := by decide +kernel
theorem dX8_wordHere_86 : decode cX8_wordHere 86 = .ok (.if_icmp .gt 109, 3) := by decide +kernel
theorem dX8_wordHere_89 : decode cX8_wordHere 89 = .ok (.iconst 0, 1) := by decide +kernel
theorem dX8_wordHere_90 : decode cX8_wordHere 90 = .ok (.istore_n 2, 1) := by decide +kernel
theorem dX8_wordHere_91 : decode cX8_wordHere 91 = .ok (.iload_n 2, 1) := by decide +kernel
theorem dX8_wordHere_92 : decode cX8_wordHere 92 = .ok (.bipush 8, 2) := by decide +kernel
theorem dX8_wordHere_94 : decode cX8_wordHere 94 = .ok (.if_icmp .ge 23, 3) := by decide +kernel
theorem dX8_wordHere_97 : decode cX8_wordHere 97 = .ok (.aload_n 0, 1) := by decide +kernel
theorem dX8_wordHere_98 : decode cX8_wordHere 98 = .ok (.getfield 96, 3) := by decide +kernel
theorem dX8_wordHere_101 : decode cX8_wordHere 101 = .ok (.bipush 8, 2) := by decide +kernel
theorem dX8_wordHere_103 : decode cX8_wordHere 103 = .ok (.iload_n 1, 1) := by decide +kernel
theorem dX8_wordHere_104 : decode cX8_wordHere 104 = .ok (.imul, 1) := by decide +kernel
theorem dX8_wordHere_105 : decode cX8_wordHere 105 = .ok (.iload_n 2, 1) := by decide +kernel
theorem dX8_wordHere_106 : decode cX8_wordHere 106 = .ok (.iadd, 1) := by decide +kernel
theorem dX8_wordHere_107 : decode cX8_wordHere 107 = .ok (.baload, 1) := by decide +kernel
theorem dX8_wordHere_108 : decode cX8_wordHere 108 = .ok (.ifCond .eq 9, 3) := by decide +kernel
theorem dX8_wordHere_111 : decode cX8_wordHere 111 = .ok (.iinc 2 1, 3) := by decide +kernel
theorem dX8_wordHere_114 : decode cX8_wordHere 114 = .ok (.goto (-23), 3) := by decide +kernel
theorem dX8_wordHere_117 : decode cX8_wordHere 117 = .ok (.aload_n 0, 1) := by decide +kernel
theorem dX8_wordHere_118 : decode cX8_wordHere 118 = .ok (.getfield 190, 3) := by decide +kernel
theorem dX8_wordHere_121 : decode cX8_wordHere 121 = .ok (.iload_n 2, 1) := by decide +kernel
theorem dX8_wordHere_122 : decode cX8_wordHere 122 = .ok (.if_icmp .ne 7, 3) := by decide +kernel
theorem dX8_wordHere_125 : decode cX8_wordHere 125 = .ok (.iconst 1, 1) := by decide +kernel
theorem dX8_wordHere_126 : decode cX8_wordHere 126 = .ok (.goto 4, 3) := by decide +kernel
theorem dX8_wordHere_129 : decode cX8_wordHere 129 = .ok (.iconst 0, 1) := by decide +kernel
theorem dX8_wordHere_130 : decode cX8_wordHere 130 = .ok (.istore_n 3, 1) := by decide +kernel
theorem dX8_wordHere_131 : decode cX8_wordHere 131 = .ok (.iconst 0, 1) := by decide +kernel
theorem dX8_wordHere_132 : decode cX8_wordHere 132 = .ok (.istore 4, 2) := by decide +kernel
theorem dX8_wordHere_134 : decode cX8_wordHere 134 = .ok (.iload_n 3, 1) := by decide +kernel
theorem dX8_wordHere_135 : decode cX8_wordHere 135 = .ok (.ifCond .eq 48, 3) := by decide +kernel
theorem dX8_wordHere_138 : decode cX8_wordHere 138 = .ok (.iload 4, 2) := by decide +kernel
theorem dX8_wordHere_140 : decode cX8_wordHere 140 = .ok (.iload_n 2, 1) := by decide +kernel
theorem dX8_wordHere_141 : decode cX8_wordHere 141 = .ok (.if_icmp .ge 42, 3) := by decide +kernel
theorem dX8_wordHere_144 : decode cX8_wordHere 144 = .ok (.aload_n 0, 1) := by decide +kernel
theorem dX8_wordHere_145 : decode cX8_wordHere 145 = .ok (.getfield 96, 3) := by decide +kernel
theorem dX8_wordHere_148 : decode cX8_wordHere 148 = .ok (.bipush 8, 2) := by decide +kernel
theorem dX8_wordHere_150 : decode cX8_wordHere 150 = .ok (.iload_n 1, 1) := by decide +kernel
theorem dX8_wordHere_151 : decode cX8_wordHere 151 = .ok (.imul, 1) := by decide +kernel
theorem dX8_wordHere_152 : decode cX8_wordHere 152 = .ok (.iload 4, 2) := by decide +kernel
theorem dX8_wordHere_154 : decode cX8_wordHere 154 = .ok (.iadd, 1) := by decide +kernel
theorem dX8_wordHere_155 : decode cX8_wordHere 155 = .ok (.baload, 1) := by decide +kernel
theorem dX8_wordHere_156 : decode cX8_wordHere 156 = .ok (.aload_n 0, 1) := by decide +kernel
theorem dX8_wordHere_157 : decode cX8_wordHere 157 = .ok (.getfield 89, 3) := by decide +kernel
theorem dX8_wordHere_160 : decode cX8_wordHere 160 = .ok (.aload_n 0, 1) := by decide +kernel
theorem dX8_wordHere_161 : decode cX8_wordHere 161 = .ok (.getfield 187, 3) := by decide +kernel
theorem dX8_wordHere_164 : decode cX8_wordHere 164 = .ok (.iload 4, 2) := by decide +kernel
theorem dX8_wordHere_166 : decode cX8_wordHere 166 = .ok (.iadd, 1) := by decide +kernel
theorem dX8_wordHere_167 : decode cX8_wordHere 167 = .ok (.baload, 1) := by decide +kernel
theorem dX8_wordHere_168 : decode cX8_wordHere 168 = .ok (.if_icmp .ne 7, 3) := by decide +kernel
theorem dX8_wordHere_171 : decode cX8_wordHere 171 = .ok (.iconst 1, 1) := by decide +kernel
theorem dX8_wordHere_172 : decode cX8_wordHere 172 = .ok (.goto 4, 3) := by decide +kernel
theorem dX8_wordHere_175 : decode cX8_wordHere 175 = .ok (.iconst 0, 1) := by decide +kernel
theorem dX8_wordHere_176 : decode cX8_wordHere 176 = .ok (.istore_n 3, 1) := by decide +kernel
theorem dX8_wordHere_177 : decode cX8_wordHere 177 = .ok (.iinc 4 1, 3) := by decide +kernel
theorem dX8_wordHere_180 : decode cX8_wordHere 180 = .ok (.goto (-46), 3) := by decide +kernel
theorem dX8_wordHere_183 : decode cX8_wordHere 183 = .ok (.iload_n 3, 1) := by decide +kernel
theorem dX8_wordHere_184 : decode cX8_wordHere 184 = .ok (.ifCond .eq 5, 3) := by decide +kernel
theorem dX8_wordHere_187 : decode cX8_wordHere 187 = .ok (.iload_n 1, 1) := by decide +kernel
theorem dX8_wordHere_188 : decode cX8_wordHere 188 = .ok (.ireturn, 1) := by decide +kernel
theorem dX8_wordHere_189 : decode cX8_wordHere 189 = .ok (.iinc 1 1, 3) := by decide +kernel
theorem dX8_wordHere_192 : decode cX8_wordHere 192 = .ok (.goto (-118), 3) := by decide +kernel
theorem dX8_wordHere_195 : decode cX8_wordHere 195 = .ok (.iconst (-1), 1) := by decide +kernel
theorem dX8_wordHere_196 : decode cX8_wordHere 196 = .ok (.ireturn, 1) := by decide +kernel
set_option maxRecDepth 20000 in
theorem ggX8_number_X8_see : GoodIn wsX8_number wsX8_see := goodIn_sl _ [(9, 1), (1, 3), (15, 51)] rfl (by decide +kernel)
set_option maxRecDepth 20000 in
theorem gX8_number_X8_see : GoodIn wsX8_number (wsV RX8 193 RX8 yX8_see wsX8_see) := goodIn_app (goodIn_of _ (by decide +kernel)) ggX8_number_X8_see
set_option maxRecDepth 20000 in
theorem ggX8_number_X8_fails : GoodIn wsX8_number wsX8_fails := goodIn_sl _ [(13, 53)] rfl (by decide +kernel)
set_option maxRecDepth 20000 in
theorem gX8_number_X8_fails : GoodIn wsX8_number (wsV RX8 197 RX8 yX8_fails wsX8_fails) := goodIn_app (goodIn_of _ (by decide +kernel)) ggX8_number_X8_fails
theorem dX8_number_0 : decode cX8_number 0 = .ok (.aload_n 0, 1) := by decide +kernel
theorem dX8_number_1 : decode cX8_number 1 = .ok (.invokevirtual 193, 3) := by decide +kernel
theorem dX8_number_4 : decode cX8_number 4 = .ok (.istore_n 2, 1) := by decide +kernel
theorem dX8_number_5 : decode cX8_number 5 = .ok (.iload_n 2, 1) := by decide +kernel
theorem dX8_number_6 : decode cX8_number 6 = .ok (.bipush 48, 2) := by decide +kernel
theorem dX8_number_8 : decode cX8_number 8 = .ok (.if_icmp .lt 9, 3) := by decide +kernel
theorem dX8_number_11 : decode cX8_number 11 = .ok (.iload_n 2, 1) := by decide +kernel
theorem dX8_number_12 : decode cX8_number 12 = .ok (.bipush 57, 2) := by decide +kernel
theorem dX8_number_14 : decode cX8_number 14 = .ok (.if_icmp .le 13, 3) := by decide +kernel
theorem dX8_number_17 : decode cX8_number 17 = .ok (.aload_n 0, 1) := by decide +kernel
theorem dX8_number_18 : decode cX8_number 18 = .ok (.iconst 0, 1) := by decide +kernel
theorem dX8_number_19 : decode cX8_number 19 = .ok (.aload_n 0, 1) := by decide +kernel
theorem dX8_number_20 : decode cX8_number 20 = .ok (.getfield 187, 3) := by decide +kernel
theorem dX8_number_23 : decode cX8_number 23 = .ok (.invokevirtual 197, 3) := by decide +kernel
theorem dX8_number_26 : decode cX8_number 26 = .ok (.ireturn, 1) := by decide +kernel
theorem dX8_number_27 : decode cX8_number 27 = .ok (.aload_n 0, 1) := by decide +kernel
theorem dX8_number_28 : decode cX8_number 28 = .ok (.getfield 187, 3) := by decide +kernel
theorem dX8_number_31 : decode cX8_number 31 = .ok (.istore_n 3, 1) := by decide +kernel
theorem dX8_number_32 : decode cX8_number 32 = .ok (.iconst 0, 1) := by decide +kernel
theorem dX8_number_33 : decode cX8_number 33 = .ok (.istore 4, 2) := by decide +kernel
theorem dX8_number_35 : decode cX8_number 35 = .ok (.iconst 0, 1) := by decide +kernel
theorem dX8_number_36 : decode cX8_number 36 = .ok (.istore 5, 2) := by decide +kernel
theorem dX8_number_38 : decode cX8_number 38 = .ok (.aload_n 0, 1) := by decide +kernel
theorem dX8_number_39 : decode cX8_number 39 = .ok (.getfield 187, 3) := by decide +kernel
theorem dX8_number_42 : decode cX8_number 42 = .ok (.aload_n 0, 1) := by decide +kernel
theorem dX8_number_43 : decode cX8_number 43 = .ok (.getfield 178, 3) := by decide +kernel
theorem dX8_number_46 : decode cX8_number 46 = .ok (.if_icmp .ge 73, 3) := by decide +kernel
theorem dX8_number_49 : decode cX8_number 49 = .ok (.aload_n 0, 1) := by decide +kernel
theorem dX8_number_50 : decode cX8_number 50 = .ok (.getfield 89, 3) := by decide +kernel
theorem dX8_number_53 : decode cX8_number 53 = .ok (.aload_n 0, 1) := by decide +kernel
theorem dX8_number_54 : decode cX8_number 54 = .ok (.getfield 187, 3) := by decide +kernel
theorem dX8_number_57 : decode cX8_number 57 = .ok (.baload, 1) := by decide +kernel
theorem dX8_number_58 : decode cX8_number 58 = .ok (.bipush 48, 2) := by decide +kernel
theorem dX8_number_60 : decode cX8_number 60 = .ok (.if_icmp .lt 59, 3) := by decide +kernel
theorem dX8_number_63 : decode cX8_number 63 = .ok (.aload_n 0, 1) := by decide +kernel
theorem dX8_number_64 : decode cX8_number 64 = .ok (.getfield 89, 3) := by decide +kernel
theorem dX8_number_67 : decode cX8_number 67 = .ok (.aload_n 0, 1) := by decide +kernel
theorem dX8_number_68 : decode cX8_number 68 = .ok (.getfield 187, 3) := by decide +kernel
theorem dX8_number_71 : decode cX8_number 71 = .ok (.baload, 1) := by decide +kernel
theorem dX8_number_72 : decode cX8_number 72 = .ok (.bipush 57, 2) := by decide +kernel
theorem dX8_number_74 : decode cX8_number 74 = .ok (.if_icmp .gt 45, 3) := by decide +kernel
theorem dX8_number_77 : decode cX8_number 77 = .ok (.iload 4, 2) := by decide +kernel
theorem dX8_number_79 : decode cX8_number 79 = .ok (.iconst 3, 1) := by decide +kernel
theorem dX8_number_80 : decode cX8_number 80 = .ok (.if_icmp .ge 23, 3) := by decide +kernel
theorem dX8_number_83 : decode cX8_number 83 = .ok (.bipush 10, 2) := by decide +kernel
theorem dX8_number_85 : decode cX8_number 85 = .ok (.iload 5, 2) := by decide +kernel
theorem dX8_number_87 : decode cX8_number 87 = .ok (.imul, 1) := by decide +kernel
theorem dX8_number_88 : decode cX8_number 88 = .ok (.aload_n 0, 1) := by decide +kernel
theorem dX8_number_89 : decode cX8_number 89 = .ok (.getfield 89, 3) := by decide +kernel
theorem dX8_number_92 : decode cX8_number 92 = .ok (.aload_n 0, 1) := by decide +kernel
theorem dX8_number_93 : decode cX8_number 93 = .ok (.getfield 187, 3) := by decide +kernel
theorem dX8_number_96 : decode cX8_number 96 = .ok (.baload, 1) := by decide +kernel
theorem dX8_number_97 : decode cX8_number 97 = .ok (.iadd, 1) := by decide +kernel
theorem dX8_number_98 : decode cX8_number 98 = .ok (.bipush 48, 2) := by decide +kernel
theorem dX8_number_100 : decode cX8_number 100 = .ok (.isub, 1) := by decide +kernel
theorem dX8_number_101 : decode cX8_number 101 = .ok (.istore 5, 2) := by decide +kernel
theorem dX8_number_103 : decode cX8_number 103 = .ok (.iinc 4 1, 3) := by decide +kernel
theorem dX8_number_106 : decode cX8_number 106 = .ok (.aload_n 0, 1) := by decide +kernel
theorem dX8_number_107 : decode cX8_number 107 = .ok (.dup, 1) := by decide +kernel
theorem dX8_number_108 : decode cX8_number 108 = .ok (.getfield 187, 3) := by decide +kernel
theorem dX8_number_111 : decode cX8_number 111 = .ok (.iconst 1, 1) := by decide +kernel
theorem dX8_number_112 : decode cX8_number 112 = .ok (.iadd, 1) := by decide +kernel
theorem dX8_number_113 : decode cX8_number 113 = .ok (.putfield 187, 3) := by decide +kernel
theorem dX8_number_116 : decode cX8_number 116 = .ok (.goto (-78), 3) := by decide +kernel
theorem dX8_number_119 : decode cX8_number 119 = .ok (.aload_n 0, 1) := by decide +kernel
theorem dX8_number_120 : decode cX8_number 120 = .ok (.iload 5, 2) := by decide +kernel
theorem dX8_number_122 : decode cX8_number 122 = .ok (.putfield 201, 3) := by decide +kernel
theorem dX8_number_125 : decode cX8_number 125 = .ok (.iload 4, 2) := by decide +kernel
theorem dX8_number_127 : decode cX8_number 127 = .ok (.iconst 3, 1) := by decide +kernel
theorem dX8_number_128 : decode cX8_number 128 = .ok (.if_icmp .gt 9, 3) := by decide +kernel
theorem dX8_number_131 : decode cX8_number 131 = .ok (.iload 5, 2) := by decide +kernel
theorem dX8_number_133 : decode cX8_number 133 = .ok (.iload_n 1, 1) := by decide +kernel
theorem dX8_number_134 : decode cX8_number 134 = .ok (.if_icmp .le 12, 3) := by decide +kernel
theorem dX8_number_137 : decode cX8_number 137 = .ok (.aload_n 0, 1) := by decide +kernel
theorem dX8_number_138 : decode cX8_number 138 = .ok (.iconst 1, 1) := by decide +kernel
theorem dX8_number_139 : decode cX8_number 139 = .ok (.iload_n 3, 1) := by decide +kernel
theorem dX8_number_140 : decode cX8_number 140 = .ok (.invokevirtual 197, 3) := by decide +kernel
theorem dX8_number_143 : decode cX8_number 143 = .ok (.ifCond .eq 7, 3) := by decide +kernel
theorem dX8_number_146 : decode cX8_number 146 = .ok (.iconst 1, 1) := by decide +kernel
theorem dX8_number_147 : decode cX8_number 147 = .ok (.goto 4, 3) := by decide +kernel
theorem dX8_number_150 : decode cX8_number 150 = .ok (.iconst 0, 1) := by decide +kernel
theorem dX8_number_151 : decode cX8_number 151 = .ok (.ireturn, 1) := by decide +kernel
set_option maxRecDepth 20000 in
theorem ggX8_clause_X8_see : GoodIn wsX8_clause wsX8_see := goodIn_sl _ [(10, 1), (1, 1), (11, 2), (27, 51)] rfl (by decide +kernel)
set_option maxRecDepth 20000 in
theorem gX8_clause_X8_see : GoodIn wsX8_clause (wsV RX8 193 RX8 yX8_see wsX8_see) := goodIn_app (goodIn_of _ (by decide +kernel)) ggX8_clause_X8_see
set_option maxRecDepth 20000 in
theorem ggX8_clause_X8_wordHere : GoodIn wsX8_clause wsX8_wordHere := goodIn_sl _ [(16, 1), (3, 1), (1, 1), (11, 2), (17, 1), (27, 51)] rfl (by decide +kernel)
set_option maxRecDepth 20000 in
theorem gX8_clause_X8_wordHere : GoodIn wsX8_clause (wsV RX8 204 RX8 yX8_wordHere wsX8_wordHere) := goodIn_app (goodIn_of _ (by decide +kernel)) ggX8_clause_X8_wordHere
set_option maxRecDepth 20000 in
theorem ggX8_clause_X8_fails : GoodIn wsX8_clause wsX8_fails := goodIn_sl _ [(21, 2), (27, 51)] rfl (by decide +kernel)
set_option maxRecDepth 20000 in
theorem gX8_clause_X8_fails : GoodIn wsX8_clause (wsV RX8 197 RX8 yX8_fails wsX8_fails) := goodIn_app (goodIn_of _ (by decide +kernel)) ggX8_clause_X8_fails
set_option maxRecDepth 20000 in
theorem ggX8_clause_X8_number : GoodIn wsX8_clause wsX8_number := goodIn_sl _ [(26, 1), (1, 1), (11, 2), (4, 1), (6, 5), (18, 5), (27, 51)] rfl (by decide +kernel)
set_option maxRecDepth 20000 in
theorem gX8_clause_X8_number : GoodIn wsX8_clause (wsV RX8 210 RX8 yX8_number wsX8_number) := goodIn_app (goodIn_of _ (by decide +kernel)) ggX8_clause_X8_number
theorem dX8_clause_0 : decode cX8_clause 0 = .ok (.aload_n 0, 1) := by decide +kernel
theorem dX8_clause_1 : decode cX8_clause 1 = .ok (.invokevirtual 193, 3) := by decide +kernel
theorem dX8_clause_4 : decode cX8_clause 4 = .ok (.pop, 1) := by decide +kernel
theorem dX8_clause_5 : decode cX8_clause 5 = .ok (.aload_n 0, 1) := by decide +kernel
theorem dX8_clause_6 : decode cX8_clause 6 = .ok (.invokevirtual 204, 3) := by decide +kernel
theorem dX8_clause_9 : decode cX8_clause 9 = .ok (.istore_n 1, 1) := by decide +kernel
theorem dX8_clause_10 : decode cX8_clause 10 = .ok (.iload_n 1, 1) := by decide +kernel
theorem dX8_clause_11 : decode cX8_clause 11 = .ok (.ifCond .ge 13, 3) := by decide +kernel
theorem dX8_clause_14 : decode cX8_clause 14 = .ok (.aload_n 0, 1) := by decide +kernel
theorem dX8_clause_15 : decode cX8_clause 15 = .ok (.iconst 0, 1) := by decide +kernel
theorem dX8_clause_16 : decode cX8_clause 16 = .ok (.aload_n 0, 1) := by decide +kernel
theorem dX8_clause_17 : decode cX8_clause 17 = .ok (.getfield 187, 3) := by decide +kernel
theorem dX8_clause_20 : decode cX8_clause 20 = .ok (.invokevirtual 197, 3) := by decide +kernel
theorem dX8_clause_23 : decode cX8_clause 23 = .ok (.ireturn, 1) := by decide +kernel
theorem dX8_clause_24 : decode cX8_clause 24 = .ok (.aload_n 0, 1) := by decide +kernel
theorem dX8_clause_25 : decode cX8_clause 25 = .ok (.getfield 187, 3) := by decide +kernel
theorem dX8_clause_28 : decode cX8_clause 28 = .ok (.istore_n 2, 1) := by decide +kernel
theorem dX8_clause_29 : decode cX8_clause 29 = .ok (.iload_n 1, 1) := by decide +kernel
theorem dX8_clause_30 : decode cX8_clause 30 = .ok (.bipush 6, 2) := by decide +kernel
theorem dX8_clause_32 : decode cX8_clause 32 = .ok (.if_icmp .ge 22, 3) := by decide +kernel
theorem dX8_clause_35 : decode cX8_clause 35 = .ok (.aload_n 0, 1) := by decide +kernel
theorem dX8_clause_36 : decode cX8_clause 36 = .ok (.getfield 207, 3) := by decide +kernel
theorem dX8_clause_39 : decode cX8_clause 39 = .ok (.iload_n 1, 1) := by decide +kernel
theorem dX8_clause_40 : decode cX8_clause 40 = .ok (.ishr, 1) := by decide +kernel
theorem dX8_clause_41 : decode cX8_clause 41 = .ok (.iconst 1, 1) := by decide +kernel
theorem dX8_clause_42 : decode cX8_clause 42 = .ok (.iand, 1) := by decide +kernel
theorem dX8_clause_43 : decode cX8_clause 43 = .ok (.iconst 1, 1) := by decide +kernel
theorem dX8_clause_44 : decode cX8_clause 44 = .ok (.if_icmp .ne 10, 3) := by decide +kernel
theorem dX8_clause_47 : decode cX8_clause 47 = .ok (.aload_n 0, 1) := by decide +kernel
theorem dX8_clause_48 : decode cX8_clause 48 = .ok (.iconst 2, 1) := by decide +kernel
theorem dX8_clause_49 : decode cX8_clause 49 = .ok (.iload_n 2, 1) := by decide +kernel
theorem dX8_clause_50 : decode cX8_clause 50 = .ok (.invokevirtual 197, 3) := by decide +kernel
theorem dX8_clause_53 : decode cX8_clause 53 = .ok (.ireturn, 1) := by decide +kernel
theorem dX8_clause_54 : decode cX8_clause 54 = .ok (.aload_n 0, 1) := by decide +kernel
theorem dX8_clause_55 : decode cX8_clause 55 = .ok (.dup, 1) := by decide +kernel
theorem dX8_clause_56 : decode cX8_clause 56 = .ok (.getfield 187, 3) := by decide +kernel
theorem dX8_clause_59 : decode cX8_clause 59 = .ok (.aload_n 0, 1) := by decide +kernel
theorem dX8_clause_60 : decode cX8_clause 60 = .ok (.getfield 190, 3) := by decide +kernel
theorem dX8_clause_63 : decode cX8_clause 63 = .ok (.iadd, 1) := by decide +kernel
theorem dX8_clause_64 : decode cX8_clause 64 = .ok (.putfield 187, 3) := by decide +kernel
theorem dX8_clause_67 : decode cX8_clause 67 = .ok (.iload_n 1, 1) := by decide +kernel
theorem dX8_clause_68 : decode cX8_clause 68 = .ok (.bipush 6, 2) := by decide +kernel
theorem dX8_clause_70 : decode cX8_clause 70 = .ok (.if_icmp .ne 51, 3) := by decide +kernel
theorem dX8_clause_73 : decode cX8_clause 73 = .ok (.aload_n 0, 1) := by decide +kernel
theorem dX8_clause_74 : decode cX8_clause 74 = .ok (.invokevirtual 193, 3) := by decide +kernel
theorem dX8_clause_77 : decode cX8_clause 77 = .ok (.pop, 1) := by decide +kernel
theorem dX8_clause_78 : decode cX8_clause 78 = .ok (.aload_n 0, 1) := by decide +kernel
theorem dX8_clause_79 : decode cX8_clause 79 = .ok (.getfield 187, 3) := by decide +kernel
theorem dX8_clause_82 : decode cX8_clause 82 = .ok (.istore_n 2, 1) := by decide +kernel
theorem dX8_clause_83 : decode cX8_clause 83 = .ok (.aload_n 0, 1) := by decide +kernel
theorem dX8_clause_84 : decode cX8_clause 84 = .ok (.bipush 6, 2) := by decide +kernel
theorem dX8_clause_86 : decode cX8_clause 86 = .ok (.invokevirtual 210, 3) := by decide +kernel
theorem dX8_clause_89 : decode cX8_clause 89 = .ok (.ifCond .ne 5, 3) := by decide +kernel
theorem dX8_clause_92 : decode cX8_clause 92 = .ok (.iconst 0, 1) := by decide +kernel
theorem dX8_clause_93 : decode cX8_clause 93 = .ok (.ireturn, 1) := by decide +kernel
theorem dX8_clause_94 : decode cX8_clause 94 = .ok (.bipush 6, 2) := by decide +kernel
theorem dX8_clause_96 : decode cX8_clause 96 = .ok (.aload_n 0, 1) := by decide +kernel
theorem dX8_clause_97 : decode cX8_clause 97 = .ok (.getfield 201, 3) := by decide +kernel
theorem dX8_clause_100 : decode cX8_clause 100 = .ok (.iadd, 1) := by decide +kernel
theorem dX8_clause_101 : decode cX8_clause 101 = .ok (.istore_n 1, 1) := by decide +kernel
theorem dX8_clause_102 : decode cX8_clause 102 = .ok (.aload_n 0, 1) := by decide +kernel
theorem dX8_clause_103 : decode cX8_clause 103 = .ok (.getfield 207, 3) := by decide +kernel
theorem dX8_clause_106 : decode cX8_clause 106 = .ok (.iload_n 1, 1) := by decide +kernel
theorem dX8_clause_107 : decode cX8_clause 107 = .ok (.ishr, 1) := by decide +kernel
theorem dX8_clause_108 : decode cX8_clause 108 = .ok (.iconst 1, 1) := by decide +kernel
theorem dX8_clause_109 : decode cX8_clause 109 = .ok (.iand, 1) := by decide +kernel
theorem dX8_clause_110 : decode cX8_clause 110 = .ok (.iconst 1, 1) := by decide +kernel
theorem dX8_clause_111 : decode cX8_clause 111 = .ok (.if_icmp .ne 10, 3) := by decide +kernel
theorem dX8_clause_114 : decode cX8_clause 114 = .ok (.aload_n 0, 1) := by decide +kernel
theorem dX8_clause_115 : decode cX8_clause 115 = .ok (.iconst 2, 1) := by decide +kernel
theorem dX8_clause_116 : decode cX8_clause 116 = .ok (.iload_n 2, 1) := by decide +kernel
theorem dX8_clause_117 : decode cX8_clause 117 = .ok (.invokevirtual 197, 3) := by decide +kernel
theorem dX8_clause_120 : decode cX8_clause 120 = .ok (.ireturn, 1) := by decide +kernel
theorem dX8_clause_121 : decode cX8_clause 121 = .ok (.aload_n 0, 1) := by decide +kernel
theorem dX8_clause_122 : decode cX8_clause 122 = .ok (.dup, 1) := by decide +kernel
theorem dX8_clause_123 : decode cX8_clause 123 = .ok (.getfield 207, 3) := by decide +kernel
theorem dX8_clause_126 : decode cX8_clause 126 = .ok (.iconst 1, 1) := by decide +kernel
theorem dX8_clause_127 : decode cX8_clause 127 = .ok (.iload_n 1, 1) := by decide +kernel
theorem dX8_clause_128 : decode cX8_clause 128 = .ok (.ishl, 1) := by decide +kernel
theorem dX8_clause_129 : decode cX8_clause 129 = .ok (.ior, 1) := by decide +kernel
theorem dX8_clause_130 : decode cX8_clause 130 = .ok (.putfield 207, 3) := by decide +kernel
theorem dX8_clause_133 : decode cX8_clause 133 = .ok (.aload_n 0, 1) := by decide +kernel
theorem dX8_clause_134 : decode cX8_clause 134 = .ok (.iload_n 1, 1) := by decide +kernel
theorem dX8_clause_135 : decode cX8_clause 135 = .ok (.iconst 4, 1) := by decide +kernel
theorem dX8_clause_136 : decode cX8_clause 136 = .ok (.if_icmp .ne 8, 3) := by decide +kernel
theorem dX8_clause_139 : decode cX8_clause 139 = .ok (.bipush 100, 2) := by decide +kernel
theorem dX8_clause_141 : decode cX8_clause 141 = .ok (.goto 5, 3) := by decide +kernel
theorem dX8_clause_144 : decode cX8_clause 144 = .ok (.bipush 9, 2) := by decide +kernel
theorem dX8_clause_146 : decode cX8_clause 146 = .ok (.invokevirtual 210, 3) := by decide +kernel
theorem dX8_clause_149 : decode cX8_clause 149 = .ok (.ifCond .ne 5, 3) := by decide +kernel
theorem dX8_clause_152 : decode cX8_clause 152 = .ok (.iconst 0, 1) := by decide +kernel
theorem dX8_clause_153 : decode cX8_clause 153 = .ok (.ireturn, 1) := by decide +kernel
theorem dX8_clause_154 : decode cX8_clause 154 = .ok (.aload_n 0, 1) := by decide +kernel
theorem dX8_clause_155 : decode cX8_clause 155 = .ok (.getfield 93, 3) := by decide +kernel
theorem dX8_clause_158 : decode cX8_clause 158 = .ok (.iload_n 1, 1) := by decide +kernel
theorem dX8_clause_159 : decode cX8_clause 159 = .ok (.aload_n 0, 1) := by decide +kernel
theorem dX8_clause_160 : decode cX8_clause 160 = .ok (.getfield 201, 3) := by decide +kernel
theorem dX8_clause_163 : decode cX8_clause 163 = .ok (.iastore, 1) := by decide +kernel
theorem dX8_clause_164 : decode cX8_clause 164 = .ok (.iconst 1, 1) := by decide +kernel
theorem dX8_clause_165 : decode cX8_clause 165 = .ok (.ireturn, 1) := by decide +kernel
set_option maxRecDepth 20000 in
theorem ggX8_open_X8_without : GoodIn wsX8_open wsX8_without := goodIn_sl _ [(16, 1)] rfl (by decide +kernel)
set_option maxRecDepth 20000 in
theorem gX8_open_X8_without : GoodIn wsX8_open (va_wsS RX8 157 yX8_without wsX8_without) := goodIn_app (goodIn_of _ (by decide +kernel)) ggX8_open_X8_without
set_option maxRecDepth 20000 in
theorem ggX8_open_X8_see : GoodIn wsX8_open wsX8_see := goodIn_sl _ [(20, 1), (4, 1), (8, 1), (21, 1), (41, 51)] rfl (by decide +kernel)
set_option maxRecDepth 20000 in
theorem gX8_open_X8_see : GoodIn wsX8_open (wsV RX8 193 RX8 yX8_see wsX8_see) := goodIn_app (goodIn_of _ (by decide +kernel)) ggX8_open_X8_see
set_option maxRecDepth 20000 in
theorem ggX8_open_X8_clause : GoodIn wsX8_open wsX8_clause := goodIn_sl _ [(25, 1), (4, 1), (6, 1), (26, 2), (7, 1), (17, 3), (15, 1), (20, 1), (8, 1), (21, 1), (28, 9), (5, 1), (37, 55)] rfl (by decide +kernel)
set_option maxRecDepth 20000 in
theorem gX8_open_X8_clause : GoodIn wsX8_open (wsV RX8 217 RX8 yX8_clause wsX8_clause) := goodIn_app (goodIn_of _ (by decide +kernel)) ggX8_open_X8_clause
set_option maxRecDepth 20000 in
theorem ggX8_open_X8_fails : GoodIn wsX8_open wsX8_fails := goodIn_sl _ [(36, 1), (5, 1), (41, 51)] rfl (by decide +kernel)
set_option maxRecDepth 20000 in
theorem gX8_open_X8_fails : GoodIn wsX8_open (wsV RX8 197 RX8 yX8_fails wsX8_fails) := goodIn_app (goodIn_of _ (by decide +kernel)) ggX8_open_X8_fails
theorem dX8_open_0 : decode cX8_open 0 = .ok (.aload_n 0, 1) := by decide +kernel
theorem dX8_open_1 : decode cX8_open 1 = .ok (.getfield 213, 3) := by decide +kernel
theorem dX8_open_4 : decode cX8_open 4 = .ok (.ifCond .ne 22, 3) := by decide +kernel
theorem dX8_open_7 : decode cX8_open 7 = .ok (.aload_n 0, 1) := by decide +kernel
theorem dX8_open_8 : decode cX8_open 8 = .ok (.getfield 150, 3) := by decide +kernel
theorem dX8_open_11 : decode cX8_open 11 = .ok (.bipush 10, 2) := by decide +kernel
theorem dX8_open_13 : decode cX8_open 13 = .ok (.if_icmp .eq 13, 3) := by decide +kernel
theorem dX8_open_16 : decode cX8_open 16 = .ok (.aload_n 0, 1) := by decide +kernel
theorem dX8_open_17 : decode cX8_open 17 = .ok (.getfield 122, 3) := by decide +kernel
theorem dX8_open_20 : decode cX8_open 20 = .ok (.sipush 400, 3) := by decide +kernel
theorem dX8_open_23 : decode cX8_open 23 = .ok (.if_icmp .ne 5, 3) := by decide +kernel
theorem dX8_open_26 : decode cX8_open 26 = .ok (.iconst (-1), 1) := by decide +kernel
theorem dX8_open_27 : decode cX8_open 27 = .ok (.ireturn, 1) := by decide +kernel
theorem dX8_open_28 : decode cX8_open 28 = .ok (.aload_n 0, 1) := by decide +kernel
theorem dX8_open_29 : decode cX8_open 29 = .ok (.iconst 0, 1) := by decide +kernel
theorem dX8_open_30 : decode cX8_open 30 = .ok (.putfield 187, 3) := by decide +kernel
theorem dX8_open_33 : decode cX8_open 33 = .ok (.aload_n 0, 1) := by decide +kernel
theorem dX8_open_34 : decode cX8_open 34 = .ok (.iconst 0, 1) := by decide +kernel
theorem dX8_open_35 : decode cX8_open 35 = .ok (.putfield 184, 3) := by decide +kernel
theorem dX8_open_38 : decode cX8_open 38 = .ok (.aload_n 0, 1) := by decide +kernel
theorem dX8_open_39 : decode cX8_open 39 = .ok (.iconst 0, 1) := by decide +kernel
theorem dX8_open_40 : decode cX8_open 40 = .ok (.putfield 207, 3) := by decide +kernel
theorem dX8_open_43 : decode cX8_open 43 = .ok (.iconst 0, 1) := by decide +kernel
theorem dX8_open_44 : decode cX8_open 44 = .ok (.istore_n 1, 1) := by decide +kernel
theorem dX8_open_45 : decode cX8_open 45 = .ok (.iload_n 1, 1) := by decide +kernel
theorem dX8_open_46 : decode cX8_open 46 = .ok (.bipush 13, 2) := by decide +kernel
theorem dX8_open_48 : decode cX8_open 48 = .ok (.if_icmp .ge 19, 3) := by decide +kernel
theorem dX8_open_51 : decode cX8_open 51 = .ok (.aload_n 0, 1) := by decide +kernel
theorem dX8_open_52 : decode cX8_open 52 = .ok (.getfield 93, 3) := by decide +kernel
theorem dX8_open_55 : decode cX8_open 55 = .ok (.iload_n 1, 1) := by decide +kernel
theorem dX8_open_56 : decode cX8_open 56 = .ok (.iload_n 1, 1) := by decide +kernel
theorem dX8_open_57 : decode cX8_open 57 = .ok (.invokestatic 157, 3) := by decide +kernel
theorem dX8_open_60 : decode cX8_open 60 = .ok (.iastore, 1) := by decide +kernel
theorem dX8_open_61 : decode cX8_open 61 = .ok (.iinc 1 1, 3) := by decide +kernel
theorem dX8_open_64 : decode cX8_open 64 = .ok (.goto (-19), 3) := by decide +kernel
theorem dX8_open_67 : decode cX8_open 67 = .ok (.iconst 1, 1) := by decide +kernel
theorem dX8_open_68 : decode cX8_open 68 = .ok (.istore_n 1, 1) := by decide +kernel
theorem dX8_open_69 : decode cX8_open 69 = .ok (.aload_n 0, 1) := by decide +kernel
theorem dX8_open_70 : decode cX8_open 70 = .ok (.invokevirtual 193, 3) := by decide +kernel
theorem dX8_open_73 : decode cX8_open 73 = .ok (.iconst (-1), 1) := by decide +kernel
theorem dX8_open_74 : decode cX8_open 74 = .ok (.if_icmp .eq 7, 3) := by decide +kernel
theorem dX8_open_77 : decode cX8_open 77 = .ok (.iconst 1, 1) := by decide +kernel
theorem dX8_open_78 : decode cX8_open 78 = .ok (.goto 4, 3) := by decide +kernel
theorem dX8_open_81 : decode cX8_open 81 = .ok (.iconst 0, 1) := by decide +kernel
theorem dX8_open_82 : decode cX8_open 82 = .ok (.istore_n 2, 1) := by decide +kernel
theorem dX8_open_83 : decode cX8_open 83 = .ok (.iload_n 1, 1) := by decide +kernel
theorem dX8_open_84 : decode cX8_open 84 = .ok (.ifCond .eq 70, 3) := by decide +kernel
theorem dX8_open_87 : decode cX8_open 87 = .ok (.iload_n 2, 1) := by decide +kernel
theorem dX8_open_88 : decode cX8_open 88 = .ok (.ifCond .eq 66, 3) := by decide +kernel
theorem dX8_open_91 : decode cX8_open 91 = .ok (.aload_n 0, 1) := by decide +kernel
theorem dX8_open_92 : decode cX8_open 92 = .ok (.invokevirtual 217, 3) := by decide +kernel
theorem dX8_open_95 : decode cX8_open 95 = .ok (.istore_n 1, 1) := by decide +kernel
theorem dX8_open_96 : decode cX8_open 96 = .ok (.iload_n 1, 1) := by decide +kernel
theorem dX8_open_97 : decode cX8_open 97 = .ok (.ifCond .eq 15, 3) := by decide +kernel
theorem dX8_open_100 : decode cX8_open 100 = .ok (.aload_n 0, 1) := by decide +kernel
theorem dX8_open_101 : decode cX8_open 101 = .ok (.invokevirtual 193, 3) := by decide +kernel
theorem dX8_open_104 : decode cX8_open 104 = .ok (.iconst (-1), 1) := by decide +kernel
theorem dX8_open_105 : decode cX8_open 105 = .ok (.if_icmp .eq 7, 3) := by decide +kernel
theorem dX8_open_108 : decode cX8_open 108 = .ok (.iconst 1, 1) := by decide +kernel
theorem dX8_open_109 : decode cX8_open 109 = .ok (.goto 4, 3) := by decide +kernel
theorem dX8_open_112 : decode cX8_open 112 = .ok (.iconst 0, 1) := by decide +kernel
theorem dX8_open_113 : decode cX8_open 113 = .ok (.istore_n 2, 1) := by decide +kernel
theorem dX8_open_114 : decode cX8_open 114 = .ok (.iload_n 2, 1) := by decide +kernel
theorem dX8_open_115 : decode cX8_open 115 = .ok (.ifCond .eq 22, 3) := by decide +kernel
theorem dX8_open_118 : decode cX8_open 118 = .ok (.aload_n 0, 1) := by decide +kernel
theorem dX8_open_119 : decode cX8_open 119 = .ok (.invokevirtual 193, 3) := by decide +kernel
theorem dX8_open_122 : decode cX8_open 122 = .ok (.bipush 59, 2) := by decide +kernel
theorem dX8_open_124 : decode cX8_open 124 = .ok (.if_icmp .eq 13, 3) := by decide +kernel
theorem dX8_open_127 : decode cX8_open 127 = .ok (.aload_n 0, 1) := by decide +kernel
theorem dX8_open_128 : decode cX8_open 128 = .ok (.iconst 0, 1) := by decide +kernel
theorem dX8_open_129 : decode cX8_open 129 = .ok (.aload_n 0, 1) := by decide +kernel
theorem dX8_open_130 : decode cX8_open 130 = .ok (.getfield 187, 3) := by decide +kernel
theorem dX8_open_133 : decode cX8_open 133 = .ok (.invokevirtual 197, 3) := by decide +kernel
theorem dX8_open_136 : decode cX8_open 136 = .ok (.istore_n 1, 1) := by decide +kernel
theorem dX8_open_137 : decode cX8_open 137 = .ok (.iload_n 2, 1) := by decide +kernel
theorem dX8_open_138 : decode cX8_open 138 = .ok (.ifCond .eq (-55), 3) := by decide +kernel
theorem dX8_open_141 : decode cX8_open 141 = .ok (.aload_n 0, 1) := by decide +kernel
theorem dX8_open_142 : decode cX8_open 142 = .ok (.dup, 1) := by decide +kernel
theorem dX8_open_143 : decode cX8_open 143 = .ok (.getfield 187, 3) := by decide +kernel
theorem dX8_open_146 : decode cX8_open 146 = .ok (.iconst 1, 1) := by decide +kernel
theorem dX8_open_147 : decode cX8_open 147 = .ok (.iadd, 1) := by decide +kernel
theorem dX8_open_148 : decode cX8_open 148 = .ok (.putfield 187, 3) := by decide +kernel
theorem dX8_open_151 : decode cX8_open 151 = .ok (.goto (-68), 3) := by decide +kernel
theorem dX8_open_154 : decode cX8_open 154 = .ok (.aload_n 0, 1) := by decide +kernel
theorem dX8_open_155 : decode cX8_open 155 = .ok (.iconst 0, 1) := by decide +kernel
theorem dX8_open_156 : decode cX8_open 156 = .ok (.putfield 178, 3) := by decide +kernel
theorem dX8_open_159 : decode cX8_open 159 = .ok (.iload_n 1, 1) := by decide +kernel
theorem dX8_open_160 : decode cX8_open 160 = .ok (.ifCond .ne 11, 3) := by decide +kernel
theorem dX8_open_163 : decode cX8_open 163 = .ok (.bipush (-2), 2) := by decide +kernel
theorem dX8_open_165 : decode cX8_open 165 = .ok (.aload_n 0, 1) := by decide +kernel
theorem dX8_open_166 : decode cX8_open 166 = .ok (.getfield 184, 3) := by decide +kernel
theorem dX8_open_169 : decode cX8_open 169 = .ok (.isub, 1) := by decide +kernel
theorem dX8_open_170 : decode cX8_open 170 = .ok (.ireturn, 1) := by decide +kernel
theorem dX8_open_171 : decode cX8_open 171 = .ok (.iconst 0, 1) := by decide +kernel
theorem dX8_open_172 : decode cX8_open 172 = .ok (.istore_n 3, 1) := by decide +kernel
theorem dX8_open_173 : decode cX8_open 173 = .ok (.iload_n 3, 1) := by decide +kernel
theorem dX8_open_174 : decode cX8_open 174 = .ok (.bipush 13, 2) := by decide +kernel
theorem dX8_open_176 : decode cX8_open 176 = .ok (.if_icmp .ge 21, 3) := by decide +kernel
theorem dX8_open_179 : decode cX8_open 179 = .ok (.aload_n 0, 1) := by decide +kernel
theorem dX8_open_180 : decode cX8_open 180 = .ok (.getfield 105, 3) := by decide +kernel
theorem dX8_open_183 : decode cX8_open 183 = .ok (.iload_n 3, 1) := by decide +kernel
theorem dX8_open_184 : decode cX8_open 184 = .ok (.aload_n 0, 1) := by decide +kernel
theorem dX8_open_185 : decode cX8_open 185 = .ok (.getfield 93, 3) := by decide +kernel
theorem dX8_open_188 : decode cX8_open 188 = .ok (.iload_n 3, 1) := by decide +kernel
theorem dX8_open_189 : decode cX8_open 189 = .ok (.iaload, 1) := by decide +kernel
theorem dX8_open_190 : decode cX8_open 190 = .ok (.iastore, 1) := by decide +kernel
theorem dX8_open_191 : decode cX8_open 191 = .ok (.iinc 3 1, 3) := by decide +kernel
theorem dX8_open_194 : decode cX8_open 194 = .ok (.goto (-21), 3) := by decide +kernel
theorem dX8_open_197 : decode cX8_open 197 = .ok (.aload_n 0, 1) := by decide +kernel
theorem dX8_open_198 : decode cX8_open 198 = .ok (.iconst 1, 1) := by decide +kernel
theorem dX8_open_199 : decode cX8_open 199 = .ok (.putfield 213, 3) := by decide +kernel
theorem dX8_open_202 : decode cX8_open 202 = .ok (.aload_n 0, 1) := by decide +kernel
theorem dX8_open_203 : decode cX8_open 203 = .ok (.iconst 1, 1) := by decide +kernel
theorem dX8_open_204 : decode cX8_open 204 = .ok (.putfield 221, 3) := by decide +kernel
theorem dX8_open_207 : decode cX8_open 207 = .ok (.iconst 0, 1) := by decide +kernel
theorem dX8_open_208 : decode cX8_open 208 = .ok (.istore_n 3, 1) := by decide +kernel
theorem dX8_open_209 : decode cX8_open 209 = .ok (.iload_n 3, 1) := by decide +kernel
theorem dX8_open_210 : decode cX8_open 210 = .ok (.bipush 20, 2) := by decide +kernel
theorem dX8_open_212 : decode cX8_open 212 = .ok (.if_icmp .ge 23, 3) := by decide +kernel
theorem dX8_open_215 : decode cX8_open 215 = .ok (.aload_n 0, 1) := by decide +kernel
theorem dX8_open_216 : decode cX8_open 216 = .ok (.getfield 99, 3) := by decide +kernel
theorem dX8_open_219 : decode cX8_open 219 = .ok (.iload_n 3, 1) := by decide +kernel
theorem dX8_open_220 : decode cX8_open 220 = .ok (.iconst 0, 1) := by decide +kernel
theorem dX8_open_221 : decode cX8_open 221 = .ok (.iastore, 1) := by decide +kernel
theorem dX8_open_222 : decode cX8_open 222 = .ok (.aload_n 0, 1) := by decide +kernel
theorem dX8_open_223 : decode cX8_open 223 = .ok (.getfield 102, 3) := by decide +kernel
theorem dX8_open_226 : decode cX8_open 226 = .ok (.iload_n 3, 1) := by decide +kernel
theorem dX8_open_227 : decode cX8_open 227 = .ok (.iconst (-1), 1) := by decide +kernel
theorem dX8_open_228 : decode cX8_open 228 = .ok (.iastore, 1) := by decide +kernel
theorem dX8_open_229 : decode cX8_open 229 = .ok (.iinc 3 1, 3) := by decide +kernel
theorem dX8_open_232 : decode cX8_open 232 = .ok (.goto (-23), 3) := by decide +kernel
theorem dX8_open_235 : decode cX8_open 235 = .ok (.iconst 0, 1) := by decide +kernel
theorem dX8_open_236 : decode cX8_open 236 = .ok (.ireturn, 1) := by decide +kernel
set_option maxRecDepth 20000 in
theorem ggX8_mayVote_X8_isCanon : GoodIn wsX8_mayVote wsX8_isCanon := goodIn_sl _ [(8, 4), (7, 1), (12, 52)] rfl (by decide +kernel)
set_option maxRecDepth 20000 in
theorem gX8_mayVote_X8_isCanon : GoodIn wsX8_mayVote (wsV RX8 129 RX8 yX8_isCanon wsX8_isCanon) := goodIn_app (goodIn_of _ (by decide +kernel)) ggX8_mayVote_X8_isCanon
theorem dX8_mayVote_0 : decode cX8_mayVote 0 = .ok (.aload_n 0, 1) := by decide +kernel
theorem dX8_mayVote_1 : decode cX8_mayVote 1 = .ok (.getfield 213, 3) := by decide +kernel
theorem dX8_mayVote_4 : decode cX8_mayVote 4 = .ok (.ifCond .eq 34, 3) := by decide +kernel
theorem dX8_mayVote_7 : decode cX8_mayVote 7 = .ok (.aload_n 0, 1) := by decide +kernel
theorem dX8_mayVote_8 : decode cX8_mayVote 8 = .ok (.getfield 122, 3) := by decide +kernel
theorem dX8_mayVote_11 : decode cX8_mayVote 11 = .ok (.sipush 400, 3) := by decide +kernel
theorem dX8_mayVote_14 : decode cX8_mayVote 14 = .ok (.if_icmp .ge 24, 3) := by decide +kernel
theorem dX8_mayVote_17 : decode cX8_mayVote 17 = .ok (.aload_n 0, 1) := by decide +kernel
theorem dX8_mayVote_18 : decode cX8_mayVote 18 = .ok (.iload_n 1, 1) := by decide +kernel
theorem dX8_mayVote_19 : decode cX8_mayVote 19 = .ok (.invokevirtual 129, 3) := by decide +kernel
theorem dX8_mayVote_22 : decode cX8_mayVote 22 = .ok (.ifCond .eq 16, 3) := by decide +kernel
theorem dX8_mayVote_25 : decode cX8_mayVote 25 = .ok (.aload_n 0, 1) := by decide +kernel
theorem dX8_mayVote_26 : decode cX8_mayVote 26 = .ok (.getfield 16, 3) := by decide +kernel
theorem dX8_mayVote_29 : decode cX8_mayVote 29 = .ok (.iload_n 1, 1) := by decide +kernel
theorem dX8_mayVote_30 : decode cX8_mayVote 30 = .ok (.baload, 1) := by decide +kernel
theorem dX8_mayVote_31 : decode cX8_mayVote 31 = .ok (.ifCond .eq 7, 3) := by decide +kernel
theorem dX8_mayVote_34 : decode cX8_mayVote 34 = .ok (.iconst 1, 1) := by decide +kernel
theorem dX8_mayVote_35 : decode cX8_mayVote 35 = .ok (.goto 4, 3) := by decide +kernel
theorem dX8_mayVote_38 : decode cX8_mayVote 38 = .ok (.iconst 0, 1) := by decide +kernel
theorem dX8_mayVote_39 : decode cX8_mayVote 39 = .ok (.ireturn, 1) := by decide +kernel
set_option maxRecDepth 20000 in
theorem ggX8_votes_X8_mayVote : GoodIn wsX8_votes wsX8_mayVote := goodIn_sl _ [(7, 7), (6, 1), (14, 56)] rfl (by decide +kernel)
set_option maxRecDepth 20000 in
theorem gX8_votes_X8_mayVote : GoodIn wsX8_votes (wsV RX8 224 RX8 yX8_mayVote wsX8_mayVote) := goodIn_app (goodIn_of _ (by decide +kernel)) ggX8_votes_X8_mayVote
theorem dX8_votes_0 : decode cX8_votes 0 = .ok (.aload_n 0, 1) := by decide +kernel
theorem dX8_votes_1 : decode cX8_votes 1 = .ok (.iload_n 1, 1) := by decide +kernel
theorem dX8_votes_2 : decode cX8_votes 2 = .ok (.invokevirtual 224, 3) := by decide +kernel
theorem dX8_votes_5 : decode cX8_votes 5 = .ok (.ifCond .ne 5, 3) := by decide +kernel
theorem dX8_votes_8 : decode cX8_votes 8 = .ok (.iconst 0, 1) := by decide +kernel
theorem dX8_votes_9 : decode cX8_votes 9 = .ok (.ireturn, 1) := by decide +kernel
theorem dX8_votes_10 : decode cX8_votes 10 = .ok (.aload_n 0, 1) := by decide +kernel
theorem dX8_votes_11 : decode cX8_votes 11 = .ok (.getfield 102, 3) := by decide +kernel
theorem dX8_votes_14 : decode cX8_votes 14 = .ok (.iload_n 1, 1) := by decide +kernel
theorem dX8_votes_15 : decode cX8_votes 15 = .ok (.iconst (-1), 1) := by decide +kernel
theorem dX8_votes_16 : decode cX8_votes 16 = .ok (.iastore, 1) := by decide +kernel
theorem dX8_votes_17 : decode cX8_votes 17 = .ok (.aload_n 0, 1) := by decide +kernel
theorem dX8_votes_18 : decode cX8_votes 18 = .ok (.getfield 99, 3) := by decide +kernel
theorem dX8_votes_21 : decode cX8_votes 21 = .ok (.iload_n 1, 1) := by decide +kernel
theorem dX8_votes_22 : decode cX8_votes 22 = .ok (.iload_n 2, 1) := by decide +kernel
theorem dX8_votes_23 : decode cX8_votes 23 = .ok (.ifCond .eq 7, 3) := by decide +kernel
theorem dX8_votes_26 : decode cX8_votes 26 = .ok (.iconst 1, 1) := by decide +kernel
theorem dX8_votes_27 : decode cX8_votes 27 = .ok (.goto 4, 3) := by decide +kernel
theorem dX8_votes_30 : decode cX8_votes 30 = .ok (.iconst 2, 1) := by decide +kernel
theorem dX8_votes_31 : decode cX8_votes 31 = .ok (.iastore, 1) := by decide +kernel
theorem dX8_votes_32 : decode cX8_votes 32 = .ok (.iconst 1, 1) := by decide +kernel
theorem dX8_votes_33 : decode cX8_votes 33 = .ok (.ireturn, 1) := by decide +kernel
theorem dX8_givenMany_0 : decode cX8_givenMany 0 = .ok (.iconst 0, 1) := by decide +kernel
theorem dX8_givenMany_1 : decode cX8_givenMany 1 = .ok (.istore_n 3, 1) := by decide +kernel
theorem dX8_givenMany_2 : decode cX8_givenMany 2 = .ok (.iconst 0, 1) := by decide +kernel
theorem dX8_givenMany_3 : decode cX8_givenMany 3 = .ok (.istore 4, 2) := by decide +kernel
theorem dX8_givenMany_5 : decode cX8_givenMany 5 = .ok (.iload 4, 2) := by decide +kernel
theorem dX8_givenMany_7 : decode cX8_givenMany 7 = .ok (.aload_n 0, 1) := by decide +kernel
theorem dX8_givenMany_8 : decode cX8_givenMany 8 = .ok (.getfield 112, 3) := by decide +kernel
theorem dX8_givenMany_11 : decode cX8_givenMany 11 = .ok (.if_icmp .ge 34, 3) := by decide +kernel
theorem dX8_givenMany_14 : decode cX8_givenMany 14 = .ok (.iload_n 3, 1) := by decide +kernel
theorem dX8_givenMany_15 : decode cX8_givenMany 15 = .ok (.iload 4, 2) := by decide +kernel
theorem dX8_givenMany_17 : decode cX8_givenMany 17 = .ok (.iload_n 2, 1) := by decide +kernel
theorem dX8_givenMany_18 : decode cX8_givenMany 18 = .ok (.if_icmp .eq 18, 3) := by decide +kernel
theorem dX8_givenMany_21 : decode cX8_givenMany 21 = .ok (.aload_n 0, 1) := by decide +kernel
theorem dX8_givenMany_22 : decode cX8_givenMany 22 = .ok (.getfield 102, 3) := by decide +kernel
theorem dX8_givenMany_25 : decode cX8_givenMany 25 = .ok (.iload 4, 2) := by decide +kernel
theorem dX8_givenMany_27 : decode cX8_givenMany 27 = .ok (.iaload, 1) := by decide +kernel
theorem dX8_givenMany_28 : decode cX8_givenMany 28 = .ok (.iload_n 1, 1) := by decide +kernel
theorem dX8_givenMany_29 : decode cX8_givenMany 29 = .ok (.if_icmp .ne 7, 3) := by decide +kernel
theorem dX8_givenMany_32 : decode cX8_givenMany 32 = .ok (.iconst 1, 1) := by decide +kernel
theorem dX8_givenMany_33 : decode cX8_givenMany 33 = .ok (.goto 4, 3) := by decide +kernel
theorem dX8_givenMany_36 : decode cX8_givenMany 36 = .ok (.iconst 0, 1) := by decide +kernel
theorem dX8_givenMany_37 : decode cX8_givenMany 37 = .ok (.iadd, 1) := by decide +kernel
theorem dX8_givenMany_38 : decode cX8_givenMany 38 = .ok (.istore_n 3, 1) := by decide +kernel
theorem dX8_givenMany_39 : decode cX8_givenMany 39 = .ok (.iinc 4 1, 3) := by decide +kernel
theorem dX8_givenMany_42 : decode cX8_givenMany 42 = .ok (.goto (-37), 3) := by decide +kernel
theorem dX8_givenMany_45 : decode cX8_givenMany 45 = .ok (.iload_n 3, 1) := by decide +kernel
theorem dX8_givenMany_46 : decode cX8_givenMany 46 = .ok (.ireturn, 1) := by decide +kernel
set_option maxRecDepth 20000 in
theorem ggX8_gives_X8_mayVote : GoodIn wsX8_gives wsX8_mayVote := goodIn_sl _ [(8, 2), (2, 1), (10, 4), (7, 1), (14, 5), (39, 51)] rfl (by decide +kernel)
set_option maxRecDepth 20000 in
theorem gX8_gives_X8_mayVote : GoodIn wsX8_gives (wsV RX8 224 RX8 yX8_mayVote wsX8_mayVote) := goodIn_app (goodIn_of _ (by decide +kernel)) ggX8_gives_X8_mayVote
set_option maxRecDepth 20000 in
theorem ggX8_gives_X8_givenMany : GoodIn wsX8_gives wsX8_givenMany := goodIn_sl _ [(22, 1), (15, 1), (1, 1), (39, 51)] rfl (by decide +kernel)
set_option maxRecDepth 20000 in
theorem gX8_gives_X8_givenMany : GoodIn wsX8_gives (wsV RX8 227 RX8 yX8_givenMany wsX8_givenMany) := goodIn_app (goodIn_of _ (by decide +kernel)) ggX8_gives_X8_givenMany
set_option maxRecDepth 20000 in
theorem ggX8_gives_X8_numberAt : GoodIn wsX8_gives wsX8_numberAt := goodIn_sl _ [(26, 5), (7, 1), (31, 59)] rfl (by decide +kernel)
set_option maxRecDepth 20000 in
theorem gX8_gives_X8_numberAt : GoodIn wsX8_gives (wsV RX8 161 RX8 yX8_numberAt wsX8_numberAt) := goodIn_app (goodIn_of _ (by decide +kernel)) ggX8_gives_X8_numberAt
theorem dX8_gives_0 : decode cX8_gives 0 = .ok (.aload_n 0, 1) := by decide +kernel
theorem dX8_gives_1 : decode cX8_gives 1 = .ok (.iload_n 1, 1) := by decide +kernel
theorem dX8_gives_2 : decode cX8_gives 2 = .ok (.invokevirtual 224, 3) := by decide +kernel
theorem dX8_gives_5 : decode cX8_gives 5 = .ok (.ifCond .eq 34, 3) := by decide +kernel
theorem dX8_gives_8 : decode cX8_gives 8 = .ok (.aload_n 0, 1) := by decide +kernel
theorem dX8_gives_9 : decode cX8_gives 9 = .ok (.iload_n 2, 1) := by decide +kernel
theorem dX8_gives_10 : decode cX8_gives 10 = .ok (.invokevirtual 224, 3) := by decide +kernel
theorem dX8_gives_13 : decode cX8_gives 13 = .ok (.ifCond .eq 26, 3) := by decide +kernel
theorem dX8_gives_16 : decode cX8_gives 16 = .ok (.iload_n 1, 1) := by decide +kernel
theorem dX8_gives_17 : decode cX8_gives 17 = .ok (.iload_n 2, 1) := by decide +kernel
theorem dX8_gives_18 : decode cX8_gives 18 = .ok (.if_icmp .eq 21, 3) := by decide +kernel
theorem dX8_gives_21 : decode cX8_gives 21 = .ok (.aload_n 0, 1) := by decide +kernel
theorem dX8_gives_22 : decode cX8_gives 22 = .ok (.iload_n 1, 1) := by decide +kernel
theorem dX8_gives_23 : decode cX8_gives 23 = .ok (.iconst (-1), 1) := by decide +kernel
theorem dX8_gives_24 : decode cX8_gives 24 = .ok (.invokevirtual 227, 3) := by decide +kernel
theorem dX8_gives_27 : decode cX8_gives 27 = .ok (.ifCond .gt 12, 3) := by decide +kernel
theorem dX8_gives_30 : decode cX8_gives 30 = .ok (.aload_n 0, 1) := by decide +kernel
theorem dX8_gives_31 : decode cX8_gives 31 = .ok (.getfield 102, 3) := by decide +kernel
theorem dX8_gives_34 : decode cX8_gives 34 = .ok (.iload_n 2, 1) := by decide +kernel
theorem dX8_gives_35 : decode cX8_gives 35 = .ok (.iaload, 1) := by decide +kernel
theorem dX8_gives_36 : decode cX8_gives 36 = .ok (.ifCond .lt 5, 3) := by decide +kernel
theorem dX8_gives_39 : decode cX8_gives 39 = .ok (.iconst 0, 1) := by decide +kernel
theorem dX8_gives_40 : decode cX8_gives 40 = .ok (.ireturn, 1) := by decide +kernel
theorem dX8_gives_41 : decode cX8_gives 41 = .ok (.aload_n 0, 1) := by decide +kernel
theorem dX8_gives_42 : decode cX8_gives 42 = .ok (.iload_n 2, 1) := by decide +kernel
theorem dX8_gives_43 : decode cX8_gives 43 = .ok (.iload_n 1, 1) := by decide +kernel
theorem dX8_gives_44 : decode cX8_gives 44 = .ok (.invokevirtual 227, 3) := by decide +kernel
theorem dX8_gives_47 : decode cX8_gives 47 = .ok (.aload_n 0, 1) := by decide +kernel
theorem dX8_gives_48 : decode cX8_gives 48 = .ok (.aload_n 0, 1) := by decide +kernel
theorem dX8_gives_49 : decode cX8_gives 49 = .ok (.getfield 122, 3) := by decide +kernel
theorem dX8_gives_52 : decode cX8_gives 52 = .ok (.aload_n 0, 1) := by decide +kernel
theorem dX8_gives_53 : decode cX8_gives 53 = .ok (.getfield 122, 3) := by decide +kernel
theorem dX8_gives_56 : decode cX8_gives 56 = .ok (.iconst 5, 1) := by decide +kernel
theorem dX8_gives_57 : decode cX8_gives 57 = .ok (.invokevirtual 161, 3) := by decide +kernel
theorem dX8_gives_60 : decode cX8_gives 60 = .ok (.if_icmp .lt 5, 3) := by decide +kernel
theorem dX8_gives_63 : decode cX8_gives 63 = .ok (.iconst 0, 1) := by decide +kernel
theorem dX8_gives_64 : decode cX8_gives 64 = .ok (.ireturn, 1) := by decide +kernel
theorem dX8_gives_65 : decode cX8_gives 65 = .ok (.aload_n 0, 1) := by decide +kernel
theorem dX8_gives_66 : decode cX8_gives 66 = .ok (.getfield 102, 3) := by decide +kernel
theorem dX8_gives_69 : decode cX8_gives 69 = .ok (.iload_n 1, 1) := by decide +kernel
theorem dX8_gives_70 : decode cX8_gives 70 = .ok (.iload_n 2, 1) := by decide +kernel
theorem dX8_gives_71 : decode cX8_gives 71 = .ok (.iastore, 1) := by decide +kernel
theorem dX8_gives_72 : decode cX8_gives 72 = .ok (.aload_n 0, 1) := by decide +kernel
theorem dX8_gives_73 : decode cX8_gives 73 = .ok (.getfield 99, 3) := by decide +kernel
theorem dX8_gives_76 : decode cX8_gives 76 = .ok (.iload_n 1, 1) := by decide +kernel
theorem dX8_gives_77 : decode cX8_gives 77 = .ok (.iconst 0, 1) := by decide +kernel
theorem dX8_gives_78 : decode cX8_gives 78 = .ok (.iastore, 1) := by decide +kernel
theorem dX8_gives_79 : decode cX8_gives 79 = .ok (.iconst 1, 1) := by decide +kernel
theorem dX8_gives_80 : decode cX8_gives 80 = .ok (.ireturn, 1) := by decide +kernel
theorem dX8_unvotes_0 : decode cX8_unvotes 0 = .ok (.aload_n 0, 1) := by decide +kernel
theorem dX8_unvotes_1 : decode cX8_unvotes 1 = .ok (.getfield 213, 3) := by decide +kernel
theorem dX8_unvotes_4 : decode cX8_unvotes 4 = .ok (.ifCond .ne 4, 3) := by decide +kernel
theorem dX8_unvotes_7 : decode cX8_unvotes 7 = .ok (.return_, 1) := by decide +kernel
theorem dX8_unvotes_8 : decode cX8_unvotes 8 = .ok (.aload_n 0, 1) := by decide +kernel
theorem dX8_unvotes_9 : decode cX8_unvotes 9 = .ok (.getfield 99, 3) := by decide +kernel
theorem dX8_unvotes_12 : decode cX8_unvotes 12 = .ok (.iload_n 1, 1) := by decide +kernel
theorem dX8_unvotes_13 : decode cX8_unvotes 13 = .ok (.iconst 0, 1) := by decide +kernel
theorem dX8_unvotes_14 : decode cX8_unvotes 14 = .ok (.iastore, 1) := by decide +kernel
theorem dX8_unvotes_15 : decode cX8_unvotes 15 = .ok (.aload_n 0, 1) := by decide +kernel
theorem dX8_unvotes_16 : decode cX8_unvotes 16 = .ok (.getfield 102, 3) := by decide +kernel
theorem dX8_unvotes_19 : decode cX8_unvotes 19 = .ok (.iload_n 1, 1) := by decide +kernel
theorem dX8_unvotes_20 : decode cX8_unvotes 20 = .ok (.iconst (-1), 1) := by decide +kernel
theorem dX8_unvotes_21 : decode cX8_unvotes 21 = .ok (.iastore, 1) := by decide +kernel
theorem dX8_unvotes_22 : decode cX8_unvotes 22 = .ok (.iconst 0, 1) := by decide +kernel
theorem dX8_unvotes_23 : decode cX8_unvotes 23 = .ok (.istore_n 2, 1) := by decide +kernel
theorem dX8_unvotes_24 : decode cX8_unvotes 24 = .ok (.iload_n 2, 1) := by decide +kernel
theorem dX8_unvotes_25 : decode cX8_unvotes 25 = .ok (.aload_n 0, 1) := by decide +kernel
theorem dX8_unvotes_26 : decode cX8_unvotes 26 = .ok (.getfield 112, 3) := by decide +kernel
theorem dX8_unvotes_29 : decode cX8_unvotes 29 = .ok (.if_icmp .ge 26, 3) := by decide +kernel
theorem dX8_unvotes_32 : decode cX8_unvotes 32 = .ok (.aload_n 0, 1) := by decide +kernel
theorem dX8_unvotes_33 : decode cX8_unvotes 33 = .ok (.getfield 102, 3) := by decide +kernel
theorem dX8_unvotes_36 : decode cX8_unvotes 36 = .ok (.iload_n 2, 1) := by decide +kernel
theorem dX8_unvotes_37 : decode cX8_unvotes 37 = .ok (.iaload, 1) := by decide +kernel
theorem dX8_unvotes_38 : decode cX8_unvotes 38 = .ok (.iload_n 1, 1) := by decide +kernel
theorem dX8_unvotes_39 : decode cX8_unvotes 39 = .ok (.if_icmp .ne 10, 3) := by decide +kernel
theorem dX8_unvotes_42 : decode cX8_unvotes 42 = .ok (.aload_n 0, 1) := by decide +kernel
theorem dX8_unvotes_43 : decode cX8_unvotes 43 = .ok (.getfield 102, 3) := by decide +kernel
theorem dX8_unvotes_46 : decode cX8_unvotes 46 = .ok (.iload_n 2, 1) := by decide +kernel
theorem dX8_unvotes_47 : decode cX8_unvotes 47 = .ok (.iconst (-1), 1) := by decide +kernel
theorem dX8_unvotes_48 : decode cX8_unvotes 48 = .ok (.iastore, 1) := by decide +kernel
theorem dX8_unvotes_49 : decode cX8_unvotes 49 = .ok (.iinc 2 1, 3) := by decide +kernel
theorem dX8_unvotes_52 : decode cX8_unvotes 52 = .ok (.goto (-28), 3) := by decide +kernel
theorem dX8_unvotes_55 : decode cX8_unvotes 55 = .ok (.return_, 1) := by decide +kernel
theorem dX8_counts_0 : decode cX8_counts 0 = .ok (.aload_n 0, 1) := by decide +kernel
theorem dX8_counts_1 : decode cX8_counts 1 = .ok (.iconst 0, 1) := by decide +kernel
theorem dX8_counts_2 : decode cX8_counts 2 = .ok (.putfield 230, 3) := by decide +kernel
theorem dX8_counts_5 : decode cX8_counts 5 = .ok (.aload_n 0, 1) := by decide +kernel
theorem dX8_counts_6 : decode cX8_counts 6 = .ok (.iconst 0, 1) := by decide +kernel
theorem dX8_counts_7 : decode cX8_counts 7 = .ok (.putfield 233, 3) := by decide +kernel
theorem dX8_counts_10 : decode cX8_counts 10 = .ok (.aload_n 0, 1) := by decide +kernel
theorem dX8_counts_11 : decode cX8_counts 11 = .ok (.iconst 0, 1) := by decide +kernel
theorem dX8_counts_12 : decode cX8_counts 12 = .ok (.putfield 236, 3) := by decide +kernel
theorem dX8_counts_15 : decode cX8_counts 15 = .ok (.iconst 0, 1) := by decide +kernel
theorem dX8_counts_16 : decode cX8_counts 16 = .ok (.istore_n 1, 1) := by decide +kernel
theorem dX8_counts_17 : decode cX8_counts 17 = .ok (.iload_n 1, 1) := by decide +kernel
theorem dX8_counts_18 : decode cX8_counts 18 = .ok (.aload_n 0, 1) := by decide +kernel
theorem dX8_counts_19 : decode cX8_counts 19 = .ok (.getfield 112, 3) := by decide +kernel
theorem dX8_counts_22 : decode cX8_counts 22 = .ok (.if_icmp .ge 107, 3) := by decide +kernel
theorem dX8_counts_25 : decode cX8_counts 25 = .ok (.aload_n 0, 1) := by decide +kernel
theorem dX8_counts_26 : decode cX8_counts 26 = .ok (.getfield 16, 3) := by decide +kernel
theorem dX8_counts_29 : decode cX8_counts 29 = .ok (.iload_n 1, 1) := by decide +kernel
theorem dX8_counts_30 : decode cX8_counts 30 = .ok (.baload, 1) := by decide +kernel
theorem dX8_counts_31 : decode cX8_counts 31 = .ok (.ifCond .ne 6, 3) := by decide +kernel
theorem dX8_counts_34 : decode cX8_counts 34 = .ok (.goto 89, 3) := by decide +kernel
theorem dX8_counts_37 : decode cX8_counts 37 = .ok (.aload_n 0, 1) := by decide +kernel
theorem dX8_counts_38 : decode cX8_counts 38 = .ok (.getfield 102, 3) := by decide +kernel
theorem dX8_counts_41 : decode cX8_counts 41 = .ok (.iload_n 1, 1) := by decide +kernel
theorem dX8_counts_42 : decode cX8_counts 42 = .ok (.iaload, 1) := by decide +kernel
theorem dX8_counts_43 : decode cX8_counts 43 = .ok (.ifCond .lt 17, 3) := by decide +kernel
theorem dX8_counts_46 : decode cX8_counts 46 = .ok (.aload_n 0, 1) := by decide +kernel
theorem dX8_counts_47 : decode cX8_counts 47 = .ok (.getfield 99, 3) := by decide +kernel
theorem dX8_counts_50 : decode cX8_counts 50 = .ok (.aload_n 0, 1) := by decide +kernel
theorem dX8_counts_51 : decode cX8_counts 51 = .ok (.getfield 102, 3) := by decide +kernel
theorem dX8_counts_54 : decode cX8_counts 54 = .ok (.iload_n 1, 1) := by decide +kernel
theorem dX8_counts_55 : decode cX8_counts 55 = .ok (.iaload, 1) := by decide +kernel
theorem dX8_counts_56 : decode cX8_counts 56 = .ok (.iaload, 1) := by decide +kernel
theorem dX8_counts_57 : decode cX8_counts 57 = .ok (.goto 9, 3) := by decide +kernel
theorem dX8_counts_60 : decode cX8_counts 60 = .ok (.aload_n 0, 1) := by decide +kernel
theorem dX8_counts_61 : decode cX8_counts 61 = .ok (.getfield 99, 3) := by decide +kernel
theorem dX8_counts_64 : decode cX8_counts 64 = .ok (.iload_n 1, 1) := by decide +kernel
theorem dX8_counts_65 : decode cX8_counts 65 = .ok (.iaload, 1) := by decide +kernel
theorem dX8_counts_66 : decode cX8_counts 66 = .ok (.istore_n 2, 1) := by decide +kernel
theorem dX8_counts_67 : decode cX8_counts 67 = .ok (.aload_n 0, 1) := by decide +kernel
theorem dX8_counts_68 : decode cX8_counts 68 = .ok (.dup, 1) := by decide +kernel
theorem dX8_counts_69 : decode cX8_counts 69 = .ok (.getfield 230, 3) := by decide +kernel
theorem dX8_counts_72 : decode cX8_counts 72 = .ok (.iload_n 2, 1) := by decide +kernel
theorem dX8_counts_73 : decode cX8_counts 73 = .ok (.iconst 1, 1) := by decide +kernel
theorem dX8_counts_74 : decode cX8_counts 74 = .ok (.if_icmp .ne 7, 3) := by decide +kernel
theorem dX8_counts_77 : decode cX8_counts 77 = .ok (.iconst 1, 1) := by decide +kernel
theorem dX8_counts_78 : decode cX8_counts 78 = .ok (.goto 4, 3) := by decide +kernel
theorem dX8_counts_81 : decode cX8_counts 81 = .ok (.iconst 0, 1) := by decide +kernel
theorem dX8_counts_82 : decode cX8_counts 82 = .ok (.iadd, 1) := by decide +kernel
theorem dX8_counts_83 : decode cX8_counts 83 = .ok (.putfield 230, 3) := by decide +kernel
theorem dX8_counts_86 : decode cX8_counts 86 = .ok (.aload_n 0, 1) := by decide +kernel
theorem dX8_counts_87 : decode cX8_counts 87 = .ok (.dup, 1) := by decide +kernel
theorem dX8_counts_88 : decode cX8_counts 88 = .ok (.getfield 233, 3) := by decide +kernel
theorem dX8_counts_91 : decode cX8_counts 91 = .ok (.iload_n 2, 1) := by decide +kernel
theorem dX8_counts_92 : decode cX8_counts 92 = .ok (.iconst 2, 1) := by decide +kernel
theorem dX8_counts_93 : decode cX8_counts 93 = .ok (.if_icmp .ne 7, 3) := by decide +kernel
theorem dX8_counts_96 : decode cX8_counts 96 = .ok (.iconst 1, 1) := by decide +kernel
theorem dX8_counts_97 : decode cX8_counts 97 = .ok (.goto 4, 3) := by decide +kernel
theorem dX8_counts_100 : decode cX8_counts 100 = .ok (.iconst 0, 1) := by decide +kernel
theorem dX8_counts_101 : decode cX8_counts 101 = .ok (.iadd, 1) := by decide +kernel
theorem dX8_counts_102 : decode cX8_counts 102 = .ok (.putfield 233, 3) := by decide +kernel
theorem dX8_counts_105 : decode cX8_counts 105 = .ok (.aload_n 0, 1) := by decide +kernel
theorem dX8_counts_106 : decode cX8_counts 106 = .ok (.dup, 1) := by decide +kernel
theorem dX8_counts_107 : decode cX8_counts 107 = .ok (.getfield 236, 3) := by decide +kernel
theorem dX8_counts_110 : decode cX8_counts 110 = .ok (.iload_n 2, 1) := by decide +kernel
theorem dX8_counts_111 : decode cX8_counts 111 = .ok (.ifCond .ne 7, 3) := by decide +kernel
theorem dX8_counts_114 : decode cX8_counts 114 = .ok (.iconst 1, 1) := by decide +kernel
theorem dX8_counts_115 : decode cX8_counts 115 = .ok (.goto 4, 3) := by decide +kernel
theorem dX8_counts_118 : decode cX8_counts 118 = .ok (.iconst 0, 1) := by decide +kernel
theorem dX8_counts_119 : decode cX8_counts 119 = .ok (.iadd, 1) := by decide +kernel
theorem dX8_counts_120 : decode cX8_counts 120 = .ok (.putfield 236, 3) := by decide +kernel
theorem dX8_counts_123 : decode cX8_counts 123 = .ok (.iinc 1 1, 3) := by decide +kernel
theorem dX8_counts_126 : decode cX8_counts 126 = .ok (.goto (-109), 3) := by decide +kernel
theorem dX8_counts_129 : decode cX8_counts 129 = .ok (.return_, 1) := by decide +kernel
theorem dX8_thereMany_0 : decode cX8_thereMany 0 = .ok (.iconst 0, 1) := by decide +kernel
theorem dX8_thereMany_1 : decode cX8_thereMany 1 = .ok (.istore_n 1, 1) := by decide +kernel
theorem dX8_thereMany_2 : decode cX8_thereMany 2 = .ok (.iconst 0, 1) := by decide +kernel
theorem dX8_thereMany_3 : decode cX8_thereMany 3 = .ok (.istore_n 2, 1) := by decide +kernel
theorem dX8_thereMany_4 : decode cX8_thereMany 4 = .ok (.iload_n 2, 1) := by decide +kernel
theorem dX8_thereMany_5 : decode cX8_thereMany 5 = .ok (.aload_n 0, 1) := by decide +kernel
theorem dX8_thereMany_6 : decode cX8_thereMany 6 = .ok (.getfield 112, 3) := by decide +kernel
theorem dX8_thereMany_9 : decode cX8_thereMany 9 = .ok (.if_icmp .ge 26, 3) := by decide +kernel
theorem dX8_thereMany_12 : decode cX8_thereMany 12 = .ok (.iload_n 1, 1) := by decide +kernel
theorem dX8_thereMany_13 : decode cX8_thereMany 13 = .ok (.aload_n 0, 1) := by decide +kernel
theorem dX8_thereMany_14 : decode cX8_thereMany 14 = .ok (.getfield 16, 3) := by decide +kernel
theorem dX8_thereMany_17 : decode cX8_thereMany 17 = .ok (.iload_n 2, 1) := by decide +kernel
theorem dX8_thereMany_18 : decode cX8_thereMany 18 = .ok (.baload, 1) := by decide +kernel
theorem dX8_thereMany_19 : decode cX8_thereMany 19 = .ok (.ifCond .eq 7, 3) := by decide +kernel
theorem dX8_thereMany_22 : decode cX8_thereMany 22 = .ok (.iconst 1, 1) := by decide +kernel
theorem dX8_thereMany_23 : decode cX8_thereMany 23 = .ok (.goto 4, 3) := by decide +kernel
theorem dX8_thereMany_26 : decode cX8_thereMany 26 = .ok (.iconst 0, 1) := by decide +kernel
theorem dX8_thereMany_27 : decode cX8_thereMany 27 = .ok (.iadd, 1) := by decide +kernel
theorem dX8_thereMany_28 : decode cX8_thereMany 28 = .ok (.istore_n 1, 1) := by decide +kernel
theorem dX8_thereMany_29 : decode cX8_thereMany 29 = .ok (.iinc 2 1, 3) := by decide +kernel
theorem dX8_thereMany_32 : decode cX8_thereMany 32 = .ok (.goto (-28), 3) := by decide +kernel
theorem dX8_thereMany_35 : decode cX8_thereMany 35 = .ok (.iload_n 1, 1) := by decide +kernel
theorem dX8_thereMany_36 : decode cX8_thereMany 36 = .ok (.ireturn, 1) := by decide +kernel
set_option maxRecDepth 20000 in
theorem ggX8_close_X8_isDay : GoodIn wsX8_close wsX8_isDay := goodIn_sl _ [(14, 3), (13, 1), (17, 1)] rfl (by decide +kernel)
set_option maxRecDepth 20000 in
theorem gX8_close_X8_isDay : GoodIn wsX8_close (va_wsS RX8 143 yX8_isDay wsX8_isDay) := goodIn_app (goodIn_of _ (by decide +kernel)) ggX8_close_X8_isDay
set_option maxRecDepth 20000 in
theorem ggX8_close_X8_counts : GoodIn wsX8_close wsX8_counts := goodIn_sl _ [(21, 1), (3, 2), (22, 5), (42, 51)] rfl (by decide +kernel)
set_option maxRecDepth 20000 in
theorem gX8_close_X8_counts : GoodIn wsX8_close (wsV RX8 239 RX8 yX8_counts wsX8_counts) := goodIn_app (goodIn_of _ (by decide +kernel)) ggX8_close_X8_counts
set_option maxRecDepth 20000 in
theorem ggX8_close_X8_numberAt : GoodIn wsX8_close wsX8_numberAt := goodIn_sl _ [(30, 1), (5, 1), (31, 3), (13, 1), (34, 1), (6, 1), (9, 2), (8, 1), (35, 3), (42, 51)] rfl (by decide +kernel)
set_option maxRecDepth 20000 in
theorem gX8_close_X8_numberAt : GoodIn wsX8_close (wsV RX8 161 RX8 yX8_numberAt wsX8_numberAt) := goodIn_app (goodIn_of _ (by decide +kernel)) ggX8_close_X8_numberAt
set_option maxRecDepth 20000 in
theorem ggX8_close_X8_thereMany : GoodIn wsX8_close wsX8_thereMany := goodIn_sl _ [(41, 1), (23, 2), (42, 51)] rfl (by decide +kernel)
set_option maxRecDepth 20000 in
theorem gX8_close_X8_thereMany : GoodIn wsX8_close (wsV RX8 242 RX8 yX8_thereMany wsX8_thereMany) := goodIn_app (goodIn_of _ (by decide +kernel)) ggX8_close_X8_thereMany
theorem dX8_close_0 : decode cX8_close 0 = .ok (.aload_n 0, 1) := by decide +kernel
theorem dX8_close_1 : decode cX8_close 1 = .ok (.getfield 213, 3) := by decide +kernel
theorem dX8_close_4 : decode cX8_close 4 = .ok (.ifCond .eq 20, 3) := by decide +kernel
theorem dX8_close_7 : decode cX8_close 7 = .ok (.aload_n 0, 1) := by decide +kernel
theorem dX8_close_8 : decode cX8_close 8 = .ok (.getfield 122, 3) := by decide +kernel
theorem dX8_close_11 : decode cX8_close 11 = .ok (.sipush 400, 3) := by decide +kernel
theorem dX8_close_14 : decode cX8_close 14 = .ok (.if_icmp .eq 10, 3) := by decide +kernel
theorem dX8_close_17 : decode cX8_close 17 = .ok (.iload_n 1, 1) := by decide +kernel
theorem dX8_close_18 : decode cX8_close 18 = .ok (.invokestatic 143, 3) := by decide +kernel
theorem dX8_close_21 : decode cX8_close 21 = .ok (.ifCond .ne 5, 3) := by decide +kernel
theorem dX8_close_24 : decode cX8_close 24 = .ok (.iconst (-1), 1) := by decide +kernel
theorem dX8_close_25 : decode cX8_close 25 = .ok (.ireturn, 1) := by decide +kernel
theorem dX8_close_26 : decode cX8_close 26 = .ok (.aload_n 0, 1) := by decide +kernel
theorem dX8_close_27 : decode cX8_close 27 = .ok (.invokevirtual 239, 3) := by decide +kernel
theorem dX8_close_30 : decode cX8_close 30 = .ok (.aload_n 0, 1) := by decide +kernel
theorem dX8_close_31 : decode cX8_close 31 = .ok (.aload_n 0, 1) := by decide +kernel
theorem dX8_close_32 : decode cX8_close 32 = .ok (.getfield 122, 3) := by decide +kernel
theorem dX8_close_35 : decode cX8_close 35 = .ok (.aload_n 0, 1) := by decide +kernel
theorem dX8_close_36 : decode cX8_close 36 = .ok (.getfield 122, 3) := by decide +kernel
theorem dX8_close_39 : decode cX8_close 39 = .ok (.iconst 4, 1) := by decide +kernel
theorem dX8_close_40 : decode cX8_close 40 = .ok (.invokevirtual 161, 3) := by decide +kernel
theorem dX8_close_43 : decode cX8_close 43 = .ok (.istore_n 2, 1) := by decide +kernel
theorem dX8_close_44 : decode cX8_close 44 = .ok (.aload_n 0, 1) := by decide +kernel
theorem dX8_close_45 : decode cX8_close 45 = .ok (.iconst 0, 1) := by decide +kernel
theorem dX8_close_46 : decode cX8_close 46 = .ok (.putfield 213, 3) := by decide +kernel
theorem dX8_close_49 : decode cX8_close 49 = .ok (.bipush 100, 2) := by decide +kernel
theorem dX8_close_51 : decode cX8_close 51 = .ok (.aload_n 0, 1) := by decide +kernel
theorem dX8_close_52 : decode cX8_close 52 = .ok (.getfield 230, 3) := by decide +kernel
theorem dX8_close_55 : decode cX8_close 55 = .ok (.aload_n 0, 1) := by decide +kernel
theorem dX8_close_56 : decode cX8_close 56 = .ok (.getfield 233, 3) := by decide +kernel
theorem dX8_close_59 : decode cX8_close 59 = .ok (.iadd, 1) := by decide +kernel
theorem dX8_close_60 : decode cX8_close 60 = .ok (.imul, 1) := by decide +kernel
theorem dX8_close_61 : decode cX8_close 61 = .ok (.iload_n 2, 1) := by decide +kernel
theorem dX8_close_62 : decode cX8_close 62 = .ok (.aload_n 0, 1) := by decide +kernel
theorem dX8_close_63 : decode cX8_close 63 = .ok (.invokevirtual 242, 3) := by decide +kernel
theorem dX8_close_66 : decode cX8_close 66 = .ok (.imul, 1) := by decide +kernel
theorem dX8_close_67 : decode cX8_close 67 = .ok (.if_icmp .lt 14, 3) := by decide +kernel
theorem dX8_close_70 : decode cX8_close 70 = .ok (.aload_n 0, 1) := by decide +kernel
theorem dX8_close_71 : decode cX8_close 71 = .ok (.getfield 230, 3) := by decide +kernel
theorem dX8_close_74 : decode cX8_close 74 = .ok (.aload_n 0, 1) := by decide +kernel
theorem dX8_close_75 : decode cX8_close 75 = .ok (.getfield 233, 3) := by decide +kernel
theorem dX8_close_78 : decode cX8_close 78 = .ok (.if_icmp .gt 6, 3) := by decide +kernel
theorem dX8_close_81 : decode cX8_close 81 = .ok (.bipush (-2), 2) := by decide +kernel
theorem dX8_close_83 : decode cX8_close 83 = .ok (.ireturn, 1) := by decide +kernel
theorem dX8_close_84 : decode cX8_close 84 = .ok (.iconst 0, 1) := by decide +kernel
theorem dX8_close_85 : decode cX8_close 85 = .ok (.istore_n 3, 1) := by decide +kernel
theorem dX8_close_86 : decode cX8_close 86 = .ok (.iload_n 3, 1) := by decide +kernel
theorem dX8_close_87 : decode cX8_close 87 = .ok (.bipush 13, 2) := by decide +kernel
theorem dX8_close_89 : decode cX8_close 89 = .ok (.if_icmp .ge 29, 3) := by decide +kernel
theorem dX8_close_92 : decode cX8_close 92 = .ok (.aload_n 0, 1) := by decide +kernel
theorem dX8_close_93 : decode cX8_close 93 = .ok (.getfield 56, 3) := by decide +kernel
theorem dX8_close_96 : decode cX8_close 96 = .ok (.bipush 13, 2) := by decide +kernel
theorem dX8_close_98 : decode cX8_close 98 = .ok (.aload_n 0, 1) := by decide +kernel
theorem dX8_close_99 : decode cX8_close 99 = .ok (.getfield 150, 3) := by decide +kernel
theorem dX8_close_102 : decode cX8_close 102 = .ok (.imul, 1) := by decide +kernel
theorem dX8_close_103 : decode cX8_close 103 = .ok (.iload_n 3, 1) := by decide +kernel
theorem dX8_close_104 : decode cX8_close 104 = .ok (.iadd, 1) := by decide +kernel
theorem dX8_close_105 : decode cX8_close 105 = .ok (.aload_n 0, 1) := by decide +kernel
theorem dX8_close_106 : decode cX8_close 106 = .ok (.getfield 105, 3) := by decide +kernel
theorem dX8_close_109 : decode cX8_close 109 = .ok (.iload_n 3, 1) := by decide +kernel
theorem dX8_close_110 : decode cX8_close 110 = .ok (.iaload, 1) := by decide +kernel
theorem dX8_close_111 : decode cX8_close 111 = .ok (.iastore, 1) := by decide +kernel
theorem dX8_close_112 : decode cX8_close 112 = .ok (.iinc 3 1, 3) := by decide +kernel
theorem dX8_close_115 : decode cX8_close 115 = .ok (.goto (-29), 3) := by decide +kernel
theorem dX8_close_118 : decode cX8_close 118 = .ok (.aload_n 0, 1) := by decide +kernel
theorem dX8_close_119 : decode cX8_close 119 = .ok (.getfield 59, 3) := by decide +kernel
theorem dX8_close_122 : decode cX8_close 122 = .ok (.aload_n 0, 1) := by decide +kernel
theorem dX8_close_123 : decode cX8_close 123 = .ok (.getfield 150, 3) := by decide +kernel
theorem dX8_close_126 : decode cX8_close 126 = .ok (.iload_n 1, 1) := by decide +kernel
theorem dX8_close_127 : decode cX8_close 127 = .ok (.iastore, 1) := by decide +kernel
theorem dX8_close_128 : decode cX8_close 128 = .ok (.aload_n 0, 1) := by decide +kernel
theorem dX8_close_129 : decode cX8_close 129 = .ok (.getfield 62, 3) := by decide +kernel
theorem dX8_close_132 : decode cX8_close 132 = .ok (.aload_n 0, 1) := by decide +kernel
theorem dX8_close_133 : decode cX8_close 133 = .ok (.getfield 150, 3) := by decide +kernel
theorem dX8_close_136 : decode cX8_close 136 = .ok (.aload_n 0, 1) := by decide +kernel
theorem dX8_close_137 : decode cX8_close 137 = .ok (.getfield 122, 3) := by decide +kernel
theorem dX8_close_140 : decode cX8_close 140 = .ok (.iastore, 1) := by decide +kernel
theorem dX8_close_141 : decode cX8_close 141 = .ok (.aload_n 0, 1) := by decide +kernel
theorem dX8_close_142 : decode cX8_close 142 = .ok (.getfield 65, 3) := by decide +kernel
theorem dX8_close_145 : decode cX8_close 145 = .ok (.aload_n 0, 1) := by decide +kernel
theorem dX8_close_146 : decode cX8_close 146 = .ok (.getfield 150, 3) := by decide +kernel
theorem dX8_close_149 : decode cX8_close 149 = .ok (.iconst (-1), 1) := by decide +kernel
theorem dX8_close_150 : decode cX8_close 150 = .ok (.iastore, 1) := by decide +kernel
theorem dX8_close_151 : decode cX8_close 151 = .ok (.aload_n 0, 1) := by decide +kernel
theorem dX8_close_152 : decode cX8_close 152 = .ok (.dup, 1) := by decide +kernel
theorem dX8_close_153 : decode cX8_close 153 = .ok (.getfield 150, 3) := by decide +kernel
theorem dX8_close_156 : decode cX8_close 156 = .ok (.iconst 1, 1) := by decide +kernel
theorem dX8_close_157 : decode cX8_close 157 = .ok (.iadd, 1) := by decide +kernel
theorem dX8_close_158 : decode cX8_close 158 = .ok (.putfield 150, 3) := by decide +kernel
theorem dX8_close_161 : decode cX8_close 161 = .ok (.aload_n 0, 1) := by decide +kernel
theorem dX8_close_162 : decode cX8_close 162 = .ok (.getfield 150, 3) := by decide +kernel
theorem dX8_close_165 : decode cX8_close 165 = .ok (.iconst 1, 1) := by decide +kernel
theorem dX8_close_166 : decode cX8_close 166 = .ok (.isub, 1) := by decide +kernel
theorem dX8_close_167 : decode cX8_close 167 = .ok (.ireturn, 1) := by decide +kernel
set_option maxRecDepth 20000 in
theorem ggX8_undo_X8_in : GoodIn wsX8_undo wsX8_in := goodIn_sl _ [(7, 1)] rfl (by decide +kernel)
set_option maxRecDepth 20000 in
theorem gX8_undo_X8_in : GoodIn wsX8_undo (va_wsS RX8 108 yX8_in wsX8_in) := goodIn_app (goodIn_of _ (by decide +kernel)) ggX8_undo_X8_in
theorem dX8_undo_0 : decode cX8_undo 0 = .ok (.iload_n 1, 1) := by decide +kernel
theorem dX8_undo_1 : decode cX8_undo 1 = .ok (.iconst 0, 1) := by decide +kernel
theorem dX8_undo_2 : decode cX8_undo 2 = .ok (.aload_n 0, 1) := by decide +kernel
theorem dX8_undo_3 : decode cX8_undo 3 = .ok (.getfield 150, 3) := by decide +kernel
theorem dX8_undo_6 : decode cX8_undo 6 = .ok (.iconst 1, 1) := by decide +kernel
theorem dX8_undo_7 : decode cX8_undo 7 = .ok (.isub, 1) := by decide +kernel
theorem dX8_undo_8 : decode cX8_undo 8 = .ok (.invokestatic 108, 3) := by decide +kernel
theorem dX8_undo_11 : decode cX8_undo 11 = .ok (.ifCond .eq 22, 3) := by decide +kernel
theorem dX8_undo_14 : decode cX8_undo 14 = .ok (.aload_n 0, 1) := by decide +kernel
theorem dX8_undo_15 : decode cX8_undo 15 = .ok (.getfield 122, 3) := by decide +kernel
theorem dX8_undo_18 : decode cX8_undo 18 = .ok (.sipush 400, 3) := by decide +kernel
theorem dX8_undo_21 : decode cX8_undo 21 = .ok (.if_icmp .eq 12, 3) := by decide +kernel
theorem dX8_undo_24 : decode cX8_undo 24 = .ok (.aload_n 0, 1) := by decide +kernel
theorem dX8_undo_25 : decode cX8_undo 25 = .ok (.getfield 65, 3) := by decide +kernel
theorem dX8_undo_28 : decode cX8_undo 28 = .ok (.iload_n 1, 1) := by decide +kernel
theorem dX8_undo_29 : decode cX8_undo 29 = .ok (.iaload, 1) := by decide +kernel
theorem dX8_undo_30 : decode cX8_undo 30 = .ok (.ifCond .lt 5, 3) := by decide +kernel
theorem dX8_undo_33 : decode cX8_undo 33 = .ok (.iconst 0, 1) := by decide +kernel
theorem dX8_undo_34 : decode cX8_undo 34 = .ok (.ireturn, 1) := by decide +kernel
theorem dX8_undo_35 : decode cX8_undo 35 = .ok (.aload_n 0, 1) := by decide +kernel
theorem dX8_undo_36 : decode cX8_undo 36 = .ok (.getfield 65, 3) := by decide +kernel
theorem dX8_undo_39 : decode cX8_undo 39 = .ok (.iload_n 1, 1) := by decide +kernel
theorem dX8_undo_40 : decode cX8_undo 40 = .ok (.aload_n 0, 1) := by decide +kernel
theorem dX8_undo_41 : decode cX8_undo 41 = .ok (.getfield 122, 3) := by decide +kernel
theorem dX8_undo_44 : decode cX8_undo 44 = .ok (.iastore, 1) := by decide +kernel
theorem dX8_undo_45 : decode cX8_undo 45 = .ok (.iconst 1, 1) := by decide +kernel
theorem dX8_undo_46 : decode cX8_undo 46 = .ok (.ireturn, 1) := by decide +kernel
set_option maxRecDepth 20000 in
theorem ggX8_vote_X8_counts : GoodIn wsX8_vote wsX8_counts := goodIn_sl _ [(10, 1), (3, 3), (11, 55)] rfl (by decide +kernel)
set_option maxRecDepth 20000 in
theorem gX8_vote_X8_counts : GoodIn wsX8_vote (wsV RX8 239 RX8 yX8_counts wsX8_counts) := goodIn_app (goodIn_of _ (by decide +kernel)) ggX8_vote_X8_counts
theorem dX8_vote_0 : decode cX8_vote 0 = .ok (.aload_n 0, 1) := by decide +kernel
theorem dX8_vote_1 : decode cX8_vote 1 = .ok (.getfield 221, 3) := by decide +kernel
theorem dX8_vote_4 : decode cX8_vote 4 = .ok (.ifCond .ne 5, 3) := by decide +kernel
theorem dX8_vote_7 : decode cX8_vote 7 = .ok (.iconst (-1), 1) := by decide +kernel
theorem dX8_vote_8 : decode cX8_vote 8 = .ok (.ireturn, 1) := by decide +kernel
theorem dX8_vote_9 : decode cX8_vote 9 = .ok (.aload_n 0, 1) := by decide +kernel
theorem dX8_vote_10 : decode cX8_vote 10 = .ok (.getfield 213, 3) := by decide +kernel
theorem dX8_vote_13 : decode cX8_vote 13 = .ok (.ifCond .eq 7, 3) := by decide +kernel
theorem dX8_vote_16 : decode cX8_vote 16 = .ok (.aload_n 0, 1) := by decide +kernel
theorem dX8_vote_17 : decode cX8_vote 17 = .ok (.invokevirtual 239, 3) := by decide +kernel
theorem dX8_vote_20 : decode cX8_vote 20 = .ok (.iload_n 1, 1) := by decide +kernel
theorem dX8_vote_21 : decode cX8_vote 21 = .ok (.tableswitch 59 0 3 #[31, 36, 41, 46], 31) := by decide +kernel
theorem dX8_vote_52 : decode cX8_vote 52 = .ok (.aload_n 0, 1) := by decide +kernel
theorem dX8_vote_53 : decode cX8_vote 53 = .ok (.getfield 230, 3) := by decide +kernel
theorem dX8_vote_56 : decode cX8_vote 56 = .ok (.ireturn, 1) := by decide +kernel
theorem dX8_vote_57 : decode cX8_vote 57 = .ok (.aload_n 0, 1) := by decide +kernel
theorem dX8_vote_58 : decode cX8_vote 58 = .ok (.getfield 233, 3) := by decide +kernel
theorem dX8_vote_61 : decode cX8_vote 61 = .ok (.ireturn, 1) := by decide +kernel
theorem dX8_vote_62 : decode cX8_vote 62 = .ok (.aload_n 0, 1) := by decide +kernel
theorem dX8_vote_63 : decode cX8_vote 63 = .ok (.getfield 236, 3) := by decide +kernel
theorem dX8_vote_66 : decode cX8_vote 66 = .ok (.ireturn, 1) := by decide +kernel
theorem dX8_vote_67 : decode cX8_vote 67 = .ok (.aload_n 0, 1) := by decide +kernel
theorem dX8_vote_68 : decode cX8_vote 68 = .ok (.getfield 213, 3) := by decide +kernel
theorem dX8_vote_71 : decode cX8_vote 71 = .ok (.ifCond .eq 7, 3) := by decide +kernel
theorem dX8_vote_74 : decode cX8_vote 74 = .ok (.iconst 1, 1) := by decide +kernel
theorem dX8_vote_75 : decode cX8_vote 75 = .ok (.goto 4, 3) := by decide +kernel
theorem dX8_vote_78 : decode cX8_vote 78 = .ok (.iconst 0, 1) := by decide +kernel
theorem dX8_vote_79 : decode cX8_vote 79 = .ok (.ireturn, 1) := by decide +kernel
theorem dX8_vote_80 : decode cX8_vote 80 = .ok (.iconst (-1), 1) := by decide +kernel
theorem dX8_vote_81 : decode cX8_vote 81 = .ok (.ireturn, 1) := by decide +kernel
set_option maxRecDepth 20000 in
theorem ggX8_about_X8_isCanon : GoodIn wsX8_about wsX8_isCanon := goodIn_sl _ [(9, 4), (8, 1), (13, 52)] rfl (by decide +kernel)
set_option maxRecDepth 20000 in
theorem gX8_about_X8_isCanon : GoodIn wsX8_about (wsV RX8 129 RX8 yX8_isCanon wsX8_isCanon) := goodIn_app (goodIn_of _ (by decide +kernel)) ggX8_about_X8_isCanon
theorem dX8_about_0 : decode cX8_about 0 = .ok (.aload_n 0, 1) := by decide +kernel
theorem dX8_about_1 : decode cX8_about 1 = .ok (.iload_n 1, 1) := by decide +kernel
theorem dX8_about_2 : decode cX8_about 2 = .ok (.invokevirtual 129, 3) := by decide +kernel
theorem dX8_about_5 : decode cX8_about 5 = .ok (.ifCond .ne 5, 3) := by decide +kernel
theorem dX8_about_8 : decode cX8_about 8 = .ok (.iconst (-1), 1) := by decide +kernel
theorem dX8_about_9 : decode cX8_about 9 = .ok (.ireturn, 1) := by decide +kernel
theorem dX8_about_10 : decode cX8_about 10 = .ok (.iload_n 2, 1) := by decide +kernel
theorem dX8_about_11 : decode cX8_about 11 = .ok (.tableswitch 65 0 3 #[29, 44, 51, 58], 29) := by decide +kernel
theorem dX8_about_40 : decode cX8_about 40 = .ok (.aload_n 0, 1) := by decide +kernel
theorem dX8_about_41 : decode cX8_about 41 = .ok (.getfield 16, 3) := by decide +kernel
theorem dX8_about_44 : decode cX8_about 44 = .ok (.iload_n 1, 1) := by decide +kernel
theorem dX8_about_45 : decode cX8_about 45 = .ok (.baload, 1) := by decide +kernel
theorem dX8_about_46 : decode cX8_about 46 = .ok (.ifCond .eq 7, 3) := by decide +kernel
theorem dX8_about_49 : decode cX8_about 49 = .ok (.iconst 1, 1) := by decide +kernel
theorem dX8_about_50 : decode cX8_about 50 = .ok (.goto 4, 3) := by decide +kernel
theorem dX8_about_53 : decode cX8_about 53 = .ok (.iconst 0, 1) := by decide +kernel
theorem dX8_about_54 : decode cX8_about 54 = .ok (.ireturn, 1) := by decide +kernel
theorem dX8_about_55 : decode cX8_about 55 = .ok (.aload_n 0, 1) := by decide +kernel
theorem dX8_about_56 : decode cX8_about 56 = .ok (.getfield 20, 3) := by decide +kernel
theorem dX8_about_59 : decode cX8_about 59 = .ok (.iload_n 1, 1) := by decide +kernel
theorem dX8_about_60 : decode cX8_about 60 = .ok (.iaload, 1) := by decide +kernel
theorem dX8_about_61 : decode cX8_about 61 = .ok (.ireturn, 1) := by decide +kernel
theorem dX8_about_62 : decode cX8_about 62 = .ok (.aload_n 0, 1) := by decide +kernel
theorem dX8_about_63 : decode cX8_about 63 = .ok (.getfield 26, 3) := by decide +kernel
theorem dX8_about_66 : decode cX8_about 66 = .ok (.iload_n 1, 1) := by decide +kernel
theorem dX8_about_67 : decode cX8_about 67 = .ok (.iaload, 1) := by decide +kernel
theorem dX8_about_68 : decode cX8_about 68 = .ok (.ireturn, 1) := by decide +kernel
theorem dX8_about_69 : decode cX8_about 69 = .ok (.aload_n 0, 1) := by decide +kernel
theorem dX8_about_70 : decode cX8_about 70 = .ok (.getfield 29, 3) := by decide +kernel
theorem dX8_about_73 : decode cX8_about 73 = .ok (.iload_n 1, 1) := by decide +kernel
theorem dX8_about_74 : decode cX8_about 74 = .ok (.iaload, 1) := by decide +kernel
theorem dX8_about_75 : decode cX8_about 75 = .ok (.ireturn, 1) := by decide +kernel
theorem dX8_about_76 : decode cX8_about 76 = .ok (.iconst (-1), 1) := by decide +kernel
theorem dX8_about_77 : decode cX8_about 77 = .ok (.ireturn, 1) := by decide +kernel
set_option maxRecDepth 20000 in
theorem ggX8_count_X8_thereMany : GoodIn wsX8_count wsX8_thereMany := goodIn_sl _ [(13, 1), (3, 1), (14, 1), (18, 51)] rfl (by decide +kernel)
set_option maxRecDepth 20000 in
theorem gX8_count_X8_thereMany : GoodIn wsX8_count (wsV RX8 242 RX8 yX8_thereMany wsX8_thereMany) := goodIn_app (goodIn_of _ (by decide +kernel)) ggX8_count_X8_thereMany
set_option maxRecDepth 20000 in
theorem ggX8_count_X8_in : GoodIn wsX8_count wsX8_in := goodIn_sl _ [(17, 1)] rfl (by decide +kernel)
set_option maxRecDepth 20000 in
theorem gX8_count_X8_in : GoodIn wsX8_count (va_wsS RX8 108 yX8_in wsX8_in) := goodIn_app (goodIn_of _ (by decide +kernel)) ggX8_count_X8_in
theorem dX8_count_0 : decode cX8_count 0 = .ok (.iload_n 1, 1) := by decide +kernel
theorem dX8_count_1 : decode cX8_count 1 = .ok (.tableswitch 87 0 7 #[47, 52, 57, 62, 67, 72, 77, 82], 47) := by decide +kernel
theorem dX8_count_48 : decode cX8_count 48 = .ok (.aload_n 0, 1) := by decide +kernel
theorem dX8_count_49 : decode cX8_count 49 = .ok (.getfield 122, 3) := by decide +kernel
theorem dX8_count_52 : decode cX8_count 52 = .ok (.ireturn, 1) := by decide +kernel
theorem dX8_count_53 : decode cX8_count 53 = .ok (.aload_n 0, 1) := by decide +kernel
theorem dX8_count_54 : decode cX8_count 54 = .ok (.getfield 116, 3) := by decide +kernel
theorem dX8_count_57 : decode cX8_count 57 = .ok (.ireturn, 1) := by decide +kernel
theorem dX8_count_58 : decode cX8_count 58 = .ok (.aload_n 0, 1) := by decide +kernel
theorem dX8_count_59 : decode cX8_count 59 = .ok (.getfield 112, 3) := by decide +kernel
theorem dX8_count_62 : decode cX8_count 62 = .ok (.ireturn, 1) := by decide +kernel
theorem dX8_count_63 : decode cX8_count 63 = .ok (.aload_n 0, 1) := by decide +kernel
theorem dX8_count_64 : decode cX8_count 64 = .ok (.invokevirtual 242, 3) := by decide +kernel
theorem dX8_count_67 : decode cX8_count 67 = .ok (.ireturn, 1) := by decide +kernel
theorem dX8_count_68 : decode cX8_count 68 = .ok (.aload_n 0, 1) := by decide +kernel
theorem dX8_count_69 : decode cX8_count 69 = .ok (.getfield 139, 3) := by decide +kernel
theorem dX8_count_72 : decode cX8_count 72 = .ok (.ireturn, 1) := by decide +kernel
theorem dX8_count_73 : decode cX8_count 73 = .ok (.aload_n 0, 1) := by decide +kernel
theorem dX8_count_74 : decode cX8_count 74 = .ok (.getfield 150, 3) := by decide +kernel
theorem dX8_count_77 : decode cX8_count 77 = .ok (.ireturn, 1) := by decide +kernel
theorem dX8_count_78 : decode cX8_count 78 = .ok (.aload_n 0, 1) := by decide +kernel
theorem dX8_count_79 : decode cX8_count 79 = .ok (.getfield 178, 3) := by decide +kernel
theorem dX8_count_82 : decode cX8_count 82 = .ok (.ireturn, 1) := by decide +kernel
theorem dX8_count_83 : decode cX8_count 83 = .ok (.aload_n 0, 1) := by decide +kernel
theorem dX8_count_84 : decode cX8_count 84 = .ok (.getfield 175, 3) := by decide +kernel
theorem dX8_count_87 : decode cX8_count 87 = .ok (.ireturn, 1) := by decide +kernel
theorem dX8_count_88 : decode cX8_count 88 = .ok (.iload_n 1, 1) := by decide +kernel
theorem dX8_count_89 : decode cX8_count 89 = .ok (.bipush 20, 2) := by decide +kernel
theorem dX8_count_91 : decode cX8_count 91 = .ok (.bipush 19, 2) := by decide +kernel
theorem dX8_count_93 : decode cX8_count 93 = .ok (.aload_n 0, 1) := by decide +kernel
theorem dX8_count_94 : decode cX8_count 94 = .ok (.getfield 116, 3) := by decide +kernel
theorem dX8_count_97 : decode cX8_count 97 = .ok (.iadd, 1) := by decide +kernel
theorem dX8_count_98 : decode cX8_count 98 = .ok (.invokestatic 108, 3) := by decide +kernel
theorem dX8_count_101 : decode cX8_count 101 = .ok (.ifCond .eq 15, 3) := by decide +kernel
theorem dX8_count_104 : decode cX8_count 104 = .ok (.aload_n 0, 1) := by decide +kernel
theorem dX8_count_105 : decode cX8_count 105 = .ok (.getfield 13, 3) := by decide +kernel
theorem dX8_count_108 : decode cX8_count 108 = .ok (.iload_n 1, 1) := by decide +kernel
theorem dX8_count_109 : decode cX8_count 109 = .ok (.bipush 20, 2) := by decide +kernel
theorem dX8_count_111 : decode cX8_count 111 = .ok (.isub, 1) := by decide +kernel
theorem dX8_count_112 : decode cX8_count 112 = .ok (.iaload, 1) := by decide +kernel
theorem dX8_count_113 : decode cX8_count 113 = .ok (.goto 4, 3) := by decide +kernel
theorem dX8_count_116 : decode cX8_count 116 = .ok (.iconst (-1), 1) := by decide +kernel
theorem dX8_count_117 : decode cX8_count 117 = .ok (.ireturn, 1) := by decide +kernel

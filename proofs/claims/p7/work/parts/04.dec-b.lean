set_option maxRecDepth 20000 in
theorem ggX3_init_J7_fill_53178 : GoodIn wsX3_init wsJ7_fill_53178 := goodIn_sl _ [(17, 1)] rfl (by decide +kernel)
set_option maxRecDepth 20000 in
theorem gX3_init_J7_fill_53178 : GoodIn wsX3_init (va_wsS RX3 40 yJ7_fill_53178 wsJ7_fill_53178) := goodIn_app (goodIn_of _ (by decide +kernel)) ggX3_init_J7_fill_53178
theorem dX3_init_0 : decode cX3_init 0 = .ok (.aload_n 0, 1) := by decide +kernel
theorem dX3_init_1 : decode cX3_init 1 = .ok (.invokespecial 3, 3) := by decide +kernel
theorem dX3_init_4 : decode cX3_init 4 = .ok (.aload_n 0, 1) := by decide +kernel
theorem dX3_init_5 : decode cX3_init 5 = .ok (.iconst 0, 1) := by decide +kernel
theorem dX3_init_6 : decode cX3_init 6 = .ok (.putfield 9, 3) := by decide +kernel
theorem dX3_init_9 : decode cX3_init 9 = .ok (.aload_n 0, 1) := by decide +kernel
theorem dX3_init_10 : decode cX3_init 10 = .ok (.sipush 400, 3) := by decide +kernel
theorem dX3_init_13 : decode cX3_init 13 = .ok (.newarray .int, 2) := by decide +kernel
theorem dX3_init_15 : decode cX3_init 15 = .ok (.putfield 15, 3) := by decide +kernel
theorem dX3_init_18 : decode cX3_init 18 = .ok (.aload_n 0, 1) := by decide +kernel
theorem dX3_init_19 : decode cX3_init 19 = .ok (.sipush 400, 3) := by decide +kernel
theorem dX3_init_22 : decode cX3_init 22 = .ok (.newarray .int, 2) := by decide +kernel
theorem dX3_init_24 : decode cX3_init 24 = .ok (.putfield 19, 3) := by decide +kernel
theorem dX3_init_27 : decode cX3_init 27 = .ok (.aload_n 0, 1) := by decide +kernel
theorem dX3_init_28 : decode cX3_init 28 = .ok (.sipush 400, 3) := by decide +kernel
theorem dX3_init_31 : decode cX3_init 31 = .ok (.newarray .int, 2) := by decide +kernel
theorem dX3_init_33 : decode cX3_init 33 = .ok (.putfield 22, 3) := by decide +kernel
theorem dX3_init_36 : decode cX3_init 36 = .ok (.aload_n 0, 1) := by decide +kernel
theorem dX3_init_37 : decode cX3_init 37 = .ok (.sipush 400, 3) := by decide +kernel
theorem dX3_init_40 : decode cX3_init 40 = .ok (.newarray .int, 2) := by decide +kernel
theorem dX3_init_42 : decode cX3_init 42 = .ok (.putfield 25, 3) := by decide +kernel
theorem dX3_init_45 : decode cX3_init 45 = .ok (.aload_n 0, 1) := by decide +kernel
theorem dX3_init_46 : decode cX3_init 46 = .ok (.sipush 400, 3) := by decide +kernel
theorem dX3_init_49 : decode cX3_init 49 = .ok (.newarray .int, 2) := by decide +kernel
theorem dX3_init_51 : decode cX3_init 51 = .ok (.putfield 28, 3) := by decide +kernel
theorem dX3_init_54 : decode cX3_init 54 = .ok (.aload_n 0, 1) := by decide +kernel
theorem dX3_init_55 : decode cX3_init 55 = .ok (.sipush 400, 3) := by decide +kernel
theorem dX3_init_58 : decode cX3_init 58 = .ok (.newarray .int, 2) := by decide +kernel
theorem dX3_init_60 : decode cX3_init 60 = .ok (.putfield 31, 3) := by decide +kernel
theorem dX3_init_63 : decode cX3_init 63 = .ok (.aload_n 0, 1) := by decide +kernel
theorem dX3_init_64 : decode cX3_init 64 = .ok (.bipush 20, 2) := by decide +kernel
theorem dX3_init_66 : decode cX3_init 66 = .ok (.newarray .int, 2) := by decide +kernel
theorem dX3_init_68 : decode cX3_init 68 = .ok (.putfield 34, 3) := by decide +kernel
theorem dX3_init_71 : decode cX3_init 71 = .ok (.aload_n 0, 1) := by decide +kernel
theorem dX3_init_72 : decode cX3_init 72 = .ok (.bipush 20, 2) := by decide +kernel
theorem dX3_init_74 : decode cX3_init 74 = .ok (.newarray .int, 2) := by decide +kernel
theorem dX3_init_76 : decode cX3_init 76 = .ok (.putfield 37, 3) := by decide +kernel
theorem dX3_init_79 : decode cX3_init 79 = .ok (.aload_n 0, 1) := by decide +kernel
theorem dX3_init_80 : decode cX3_init 80 = .ok (.getfield 15, 3) := by decide +kernel
theorem dX3_init_83 : decode cX3_init 83 = .ok (.iconst (-1), 1) := by decide +kernel
theorem dX3_init_84 : decode cX3_init 84 = .ok (.invokestatic 40, 3) := by decide +kernel
theorem dX3_init_87 : decode cX3_init 87 = .ok (.return_, 1) := by decide +kernel
theorem dX3_addMark_0 : decode cX3_addMark 0 = .ok (.aload_n 0, 1) := by decide +kernel
theorem dX3_addMark_1 : decode cX3_addMark 1 = .ok (.getfield 9, 3) := by decide +kernel
theorem dX3_addMark_4 : decode cX3_addMark 4 = .ok (.sipush 400, 3) := by decide +kernel
theorem dX3_addMark_7 : decode cX3_addMark 7 = .ok (.if_icmp .ne 5, 3) := by decide +kernel
theorem dX3_addMark_10 : decode cX3_addMark 10 = .ok (.iconst (-1), 1) := by decide +kernel
theorem dX3_addMark_11 : decode cX3_addMark 11 = .ok (.ireturn, 1) := by decide +kernel
theorem dX3_addMark_12 : decode cX3_addMark 12 = .ok (.aload_n 0, 1) := by decide +kernel
theorem dX3_addMark_13 : decode cX3_addMark 13 = .ok (.getfield 22, 3) := by decide +kernel
theorem dX3_addMark_16 : decode cX3_addMark 16 = .ok (.aload_n 0, 1) := by decide +kernel
theorem dX3_addMark_17 : decode cX3_addMark 17 = .ok (.getfield 9, 3) := by decide +kernel
theorem dX3_addMark_20 : decode cX3_addMark 20 = .ok (.iload_n 1, 1) := by decide +kernel
theorem dX3_addMark_21 : decode cX3_addMark 21 = .ok (.iastore, 1) := by decide +kernel
theorem dX3_addMark_22 : decode cX3_addMark 22 = .ok (.aload_n 0, 1) := by decide +kernel
theorem dX3_addMark_23 : decode cX3_addMark 23 = .ok (.getfield 25, 3) := by decide +kernel
theorem dX3_addMark_26 : decode cX3_addMark 26 = .ok (.aload_n 0, 1) := by decide +kernel
theorem dX3_addMark_27 : decode cX3_addMark 27 = .ok (.getfield 9, 3) := by decide +kernel
theorem dX3_addMark_30 : decode cX3_addMark 30 = .ok (.iload_n 3, 1) := by decide +kernel
theorem dX3_addMark_31 : decode cX3_addMark 31 = .ok (.iastore, 1) := by decide +kernel
theorem dX3_addMark_32 : decode cX3_addMark 32 = .ok (.aload_n 0, 1) := by decide +kernel
theorem dX3_addMark_33 : decode cX3_addMark 33 = .ok (.getfield 28, 3) := by decide +kernel
theorem dX3_addMark_36 : decode cX3_addMark 36 = .ok (.aload_n 0, 1) := by decide +kernel
theorem dX3_addMark_37 : decode cX3_addMark 37 = .ok (.getfield 9, 3) := by decide +kernel
theorem dX3_addMark_40 : decode cX3_addMark 40 = .ok (.iload 4, 2) := by decide +kernel
theorem dX3_addMark_42 : decode cX3_addMark 42 = .ok (.iastore, 1) := by decide +kernel
theorem dX3_addMark_43 : decode cX3_addMark 43 = .ok (.aload_n 0, 1) := by decide +kernel
theorem dX3_addMark_44 : decode cX3_addMark 44 = .ok (.getfield 31, 3) := by decide +kernel
theorem dX3_addMark_47 : decode cX3_addMark 47 = .ok (.aload_n 0, 1) := by decide +kernel
theorem dX3_addMark_48 : decode cX3_addMark 48 = .ok (.getfield 9, 3) := by decide +kernel
theorem dX3_addMark_51 : decode cX3_addMark 51 = .ok (.iload 5, 2) := by decide +kernel
theorem dX3_addMark_53 : decode cX3_addMark 53 = .ok (.iastore, 1) := by decide +kernel
theorem dX3_addMark_54 : decode cX3_addMark 54 = .ok (.aload_n 0, 1) := by decide +kernel
theorem dX3_addMark_55 : decode cX3_addMark 55 = .ok (.getfield 19, 3) := by decide +kernel
theorem dX3_addMark_58 : decode cX3_addMark 58 = .ok (.aload_n 0, 1) := by decide +kernel
theorem dX3_addMark_59 : decode cX3_addMark 59 = .ok (.getfield 9, 3) := by decide +kernel
theorem dX3_addMark_62 : decode cX3_addMark 62 = .ok (.aload_n 0, 1) := by decide +kernel
theorem dX3_addMark_63 : decode cX3_addMark 63 = .ok (.getfield 15, 3) := by decide +kernel
theorem dX3_addMark_66 : decode cX3_addMark 66 = .ok (.iload_n 2, 1) := by decide +kernel
theorem dX3_addMark_67 : decode cX3_addMark 67 = .ok (.iaload, 1) := by decide +kernel
theorem dX3_addMark_68 : decode cX3_addMark 68 = .ok (.iastore, 1) := by decide +kernel
theorem dX3_addMark_69 : decode cX3_addMark 69 = .ok (.aload_n 0, 1) := by decide +kernel
theorem dX3_addMark_70 : decode cX3_addMark 70 = .ok (.getfield 15, 3) := by decide +kernel
theorem dX3_addMark_73 : decode cX3_addMark 73 = .ok (.iload_n 2, 1) := by decide +kernel
theorem dX3_addMark_74 : decode cX3_addMark 74 = .ok (.aload_n 0, 1) := by decide +kernel
theorem dX3_addMark_75 : decode cX3_addMark 75 = .ok (.getfield 9, 3) := by decide +kernel
theorem dX3_addMark_78 : decode cX3_addMark 78 = .ok (.iastore, 1) := by decide +kernel
theorem dX3_addMark_79 : decode cX3_addMark 79 = .ok (.aload_n 0, 1) := by decide +kernel
theorem dX3_addMark_80 : decode cX3_addMark 80 = .ok (.dup, 1) := by decide +kernel
theorem dX3_addMark_81 : decode cX3_addMark 81 = .ok (.getfield 9, 3) := by decide +kernel
theorem dX3_addMark_84 : decode cX3_addMark 84 = .ok (.iconst 1, 1) := by decide +kernel
theorem dX3_addMark_85 : decode cX3_addMark 85 = .ok (.iadd, 1) := by decide +kernel
theorem dX3_addMark_86 : decode cX3_addMark 86 = .ok (.putfield 9, 3) := by decide +kernel
theorem dX3_addMark_89 : decode cX3_addMark 89 = .ok (.aload_n 0, 1) := by decide +kernel
theorem dX3_addMark_90 : decode cX3_addMark 90 = .ok (.getfield 9, 3) := by decide +kernel
theorem dX3_addMark_93 : decode cX3_addMark 93 = .ok (.ireturn, 1) := by decide +kernel
theorem dX3_hasMarks_0 : decode cX3_hasMarks 0 = .ok (.aload_n 0, 1) := by decide +kernel
theorem dX3_hasMarks_1 : decode cX3_hasMarks 1 = .ok (.getfield 15, 3) := by decide +kernel
theorem dX3_hasMarks_4 : decode cX3_hasMarks 4 = .ok (.iload_n 1, 1) := by decide +kernel
theorem dX3_hasMarks_5 : decode cX3_hasMarks 5 = .ok (.iaload, 1) := by decide +kernel
theorem dX3_hasMarks_6 : decode cX3_hasMarks 6 = .ok (.iconst (-1), 1) := by decide +kernel
theorem dX3_hasMarks_7 : decode cX3_hasMarks 7 = .ok (.if_icmp .eq 7, 3) := by decide +kernel
theorem dX3_hasMarks_10 : decode cX3_hasMarks 10 = .ok (.iconst 1, 1) := by decide +kernel
theorem dX3_hasMarks_11 : decode cX3_hasMarks 11 = .ok (.goto 4, 3) := by decide +kernel
theorem dX3_hasMarks_14 : decode cX3_hasMarks 14 = .ok (.iconst 0, 1) := by decide +kernel
theorem dX3_hasMarks_15 : decode cX3_hasMarks 15 = .ok (.ireturn, 1) := by decide +kernel
theorem dX3_lastMark_0 : decode cX3_lastMark 0 = .ok (.aload_n 0, 1) := by decide +kernel
theorem dX3_lastMark_1 : decode cX3_lastMark 1 = .ok (.getfield 15, 3) := by decide +kernel
theorem dX3_lastMark_4 : decode cX3_lastMark 4 = .ok (.iload_n 2, 1) := by decide +kernel
theorem dX3_lastMark_5 : decode cX3_lastMark 5 = .ok (.iaload, 1) := by decide +kernel
theorem dX3_lastMark_6 : decode cX3_lastMark 6 = .ok (.istore 5, 2) := by decide +kernel
theorem dX3_lastMark_8 : decode cX3_lastMark 8 = .ok (.iconst 0, 1) := by decide +kernel
theorem dX3_lastMark_9 : decode cX3_lastMark 9 = .ok (.istore 6, 2) := by decide +kernel
theorem dX3_lastMark_11 : decode cX3_lastMark 11 = .ok (.iload 6, 2) := by decide +kernel
theorem dX3_lastMark_13 : decode cX3_lastMark 13 = .ok (.sipush 400, 3) := by decide +kernel
theorem dX3_lastMark_16 : decode cX3_lastMark 16 = .ok (.if_icmp .ge 66, 3) := by decide +kernel
theorem dX3_lastMark_19 : decode cX3_lastMark 19 = .ok (.iload 5, 2) := by decide +kernel
theorem dX3_lastMark_21 : decode cX3_lastMark 21 = .ok (.iconst (-1), 1) := by decide +kernel
theorem dX3_lastMark_22 : decode cX3_lastMark 22 = .ok (.if_icmp .eq 60, 3) := by decide +kernel
theorem dX3_lastMark_25 : decode cX3_lastMark 25 = .ok (.aload_n 0, 1) := by decide +kernel
theorem dX3_lastMark_26 : decode cX3_lastMark 26 = .ok (.getfield 22, 3) := by decide +kernel
theorem dX3_lastMark_29 : decode cX3_lastMark 29 = .ok (.iload 5, 2) := by decide +kernel
theorem dX3_lastMark_31 : decode cX3_lastMark 31 = .ok (.iaload, 1) := by decide +kernel
theorem dX3_lastMark_32 : decode cX3_lastMark 32 = .ok (.iload_n 1, 1) := by decide +kernel
theorem dX3_lastMark_33 : decode cX3_lastMark 33 = .ok (.if_icmp .ne 34, 3) := by decide +kernel
theorem dX3_lastMark_36 : decode cX3_lastMark 36 = .ok (.aload_n 0, 1) := by decide +kernel
theorem dX3_lastMark_37 : decode cX3_lastMark 37 = .ok (.getfield 25, 3) := by decide +kernel
theorem dX3_lastMark_40 : decode cX3_lastMark 40 = .ok (.iload 5, 2) := by decide +kernel
theorem dX3_lastMark_42 : decode cX3_lastMark 42 = .ok (.iaload, 1) := by decide +kernel
theorem dX3_lastMark_43 : decode cX3_lastMark 43 = .ok (.iload_n 3, 1) := by decide +kernel
theorem dX3_lastMark_44 : decode cX3_lastMark 44 = .ok (.if_icmp .ne 23, 3) := by decide +kernel
theorem dX3_lastMark_47 : decode cX3_lastMark 47 = .ok (.aload_n 0, 1) := by decide +kernel
theorem dX3_lastMark_48 : decode cX3_lastMark 48 = .ok (.getfield 31, 3) := by decide +kernel
theorem dX3_lastMark_51 : decode cX3_lastMark 51 = .ok (.iload 5, 2) := by decide +kernel
theorem dX3_lastMark_53 : decode cX3_lastMark 53 = .ok (.iaload, 1) := by decide +kernel
theorem dX3_lastMark_54 : decode cX3_lastMark 54 = .ok (.iload 4, 2) := by decide +kernel
theorem dX3_lastMark_56 : decode cX3_lastMark 56 = .ok (.if_icmp .gt 11, 3) := by decide +kernel
theorem dX3_lastMark_59 : decode cX3_lastMark 59 = .ok (.aload_n 0, 1) := by decide +kernel
theorem dX3_lastMark_60 : decode cX3_lastMark 60 = .ok (.getfield 28, 3) := by decide +kernel
theorem dX3_lastMark_63 : decode cX3_lastMark 63 = .ok (.iload 5, 2) := by decide +kernel
theorem dX3_lastMark_65 : decode cX3_lastMark 65 = .ok (.iaload, 1) := by decide +kernel
theorem dX3_lastMark_66 : decode cX3_lastMark 66 = .ok (.ireturn, 1) := by decide +kernel
theorem dX3_lastMark_67 : decode cX3_lastMark 67 = .ok (.aload_n 0, 1) := by decide +kernel
theorem dX3_lastMark_68 : decode cX3_lastMark 68 = .ok (.getfield 19, 3) := by decide +kernel
theorem dX3_lastMark_71 : decode cX3_lastMark 71 = .ok (.iload 5, 2) := by decide +kernel
theorem dX3_lastMark_73 : decode cX3_lastMark 73 = .ok (.iaload, 1) := by decide +kernel
theorem dX3_lastMark_74 : decode cX3_lastMark 74 = .ok (.istore 5, 2) := by decide +kernel
theorem dX3_lastMark_76 : decode cX3_lastMark 76 = .ok (.iinc 6 1, 3) := by decide +kernel
theorem dX3_lastMark_79 : decode cX3_lastMark 79 = .ok (.goto (-68), 3) := by decide +kernel
theorem dX3_lastMark_82 : decode cX3_lastMark 82 = .ok (.iconst 0, 1) := by decide +kernel
theorem dX3_lastMark_83 : decode cX3_lastMark 83 = .ok (.ireturn, 1) := by decide +kernel
set_option maxRecDepth 20000 in
theorem ggX3_tallyUp_J7_fill_53178 : GoodIn wsX3_tallyUp wsJ7_fill_53178 := goodIn_sl _ [(12, 1)] rfl (by decide +kernel)
set_option maxRecDepth 20000 in
theorem gX3_tallyUp_J7_fill_53178 : GoodIn wsX3_tallyUp (va_wsS RX3 40 yJ7_fill_53178 wsJ7_fill_53178) := goodIn_app (goodIn_of _ (by decide +kernel)) ggX3_tallyUp_J7_fill_53178
set_option maxRecDepth 20000 in
theorem ggX3_tallyUp_X0_inForce : GoodIn wsX3_tallyUp wsX0_inForce := goodIn_sl _ [(16, 7), (14, 1), (23, 2), (47, 5)] rfl (by decide +kernel)
set_option maxRecDepth 20000 in
theorem gX3_tallyUp_X0_inForce_n46 : GoodIn wsX3_tallyUp (wsX0_inForce) := ggX3_tallyUp_X0_inForce
set_option maxRecDepth 20000 in
theorem ggX3_tallyUp_X3_isFirstSeen : GoodIn wsX3_tallyUp wsX3_isFirstSeen := goodIn_sl _ [(29, 1), (5, 1), (7, 1), (2, 1), (38, 9)] rfl (by decide +kernel)
set_option maxRecDepth 20000 in
theorem gX3_tallyUp_X3_isFirstSeen : GoodIn wsX3_tallyUp (wsV RX3 52 RX3 yX3_isFirstSeen wsX3_isFirstSeen) := goodIn_app (goodIn_of _ (by decide +kernel)) ggX3_tallyUp_X3_isFirstSeen
set_option maxRecDepth 20000 in
theorem ggX3_tallyUp_X0_pointsFor : GoodIn wsX3_tallyUp wsX0_pointsFor := goodIn_sl _ [(32, 4), (14, 1), (36, 2), (47, 5)] rfl (by decide +kernel)
set_option maxRecDepth 20000 in
theorem gX3_tallyUp_X0_pointsFor_n56 : GoodIn wsX3_tallyUp (wsX0_pointsFor) := ggX3_tallyUp_X0_pointsFor
theorem dX3_tallyUp_0 : decode cX3_tallyUp 0 = .ok (.aload_n 0, 1) := by decide +kernel
theorem dX3_tallyUp_1 : decode cX3_tallyUp 1 = .ok (.getfield 34, 3) := by decide +kernel
theorem dX3_tallyUp_4 : decode cX3_tallyUp 4 = .ok (.iconst 0, 1) := by decide +kernel
theorem dX3_tallyUp_5 : decode cX3_tallyUp 5 = .ok (.invokestatic 40, 3) := by decide +kernel
theorem dX3_tallyUp_8 : decode cX3_tallyUp 8 = .ok (.aload_n 0, 1) := by decide +kernel
theorem dX3_tallyUp_9 : decode cX3_tallyUp 9 = .ok (.getfield 37, 3) := by decide +kernel
theorem dX3_tallyUp_12 : decode cX3_tallyUp 12 = .ok (.iconst 0, 1) := by decide +kernel
theorem dX3_tallyUp_13 : decode cX3_tallyUp 13 = .ok (.invokestatic 40, 3) := by decide +kernel
theorem dX3_tallyUp_16 : decode cX3_tallyUp 16 = .ok (.aload_n 3, 1) := by decide +kernel
theorem dX3_tallyUp_17 : decode cX3_tallyUp 17 = .ok (.iload_n 1, 1) := by decide +kernel
theorem dX3_tallyUp_18 : decode cX3_tallyUp 18 = .ok (.iload_n 2, 1) := by decide +kernel
theorem dX3_tallyUp_19 : decode cX3_tallyUp 19 = .ok (.invokevirtual 46, 3) := by decide +kernel
theorem dX3_tallyUp_22 : decode cX3_tallyUp 22 = .ok (.istore 4, 2) := by decide +kernel
theorem dX3_tallyUp_24 : decode cX3_tallyUp 24 = .ok (.iconst 0, 1) := by decide +kernel
theorem dX3_tallyUp_25 : decode cX3_tallyUp 25 = .ok (.istore 5, 2) := by decide +kernel
theorem dX3_tallyUp_27 : decode cX3_tallyUp 27 = .ok (.aload_n 0, 1) := by decide +kernel
theorem dX3_tallyUp_28 : decode cX3_tallyUp 28 = .ok (.getfield 15, 3) := by decide +kernel
theorem dX3_tallyUp_31 : decode cX3_tallyUp 31 = .ok (.iload_n 1, 1) := by decide +kernel
theorem dX3_tallyUp_32 : decode cX3_tallyUp 32 = .ok (.iaload, 1) := by decide +kernel
theorem dX3_tallyUp_33 : decode cX3_tallyUp 33 = .ok (.istore 6, 2) := by decide +kernel
theorem dX3_tallyUp_35 : decode cX3_tallyUp 35 = .ok (.iconst 0, 1) := by decide +kernel
theorem dX3_tallyUp_36 : decode cX3_tallyUp 36 = .ok (.istore 7, 2) := by decide +kernel
theorem dX3_tallyUp_38 : decode cX3_tallyUp 38 = .ok (.iload 7, 2) := by decide +kernel
theorem dX3_tallyUp_40 : decode cX3_tallyUp 40 = .ok (.sipush 400, 3) := by decide +kernel
theorem dX3_tallyUp_43 : decode cX3_tallyUp 43 = .ok (.if_icmp .ge 90, 3) := by decide +kernel
theorem dX3_tallyUp_46 : decode cX3_tallyUp 46 = .ok (.iload 6, 2) := by decide +kernel
theorem dX3_tallyUp_48 : decode cX3_tallyUp 48 = .ok (.iconst (-1), 1) := by decide +kernel
theorem dX3_tallyUp_49 : decode cX3_tallyUp 49 = .ok (.if_icmp .eq 84, 3) := by decide +kernel
theorem dX3_tallyUp_52 : decode cX3_tallyUp 52 = .ok (.aload_n 0, 1) := by decide +kernel
theorem dX3_tallyUp_53 : decode cX3_tallyUp 53 = .ok (.getfield 31, 3) := by decide +kernel
theorem dX3_tallyUp_56 : decode cX3_tallyUp 56 = .ok (.iload 6, 2) := by decide +kernel
theorem dX3_tallyUp_58 : decode cX3_tallyUp 58 = .ok (.iaload, 1) := by decide +kernel
theorem dX3_tallyUp_59 : decode cX3_tallyUp 59 = .ok (.iload_n 2, 1) := by decide +kernel
theorem dX3_tallyUp_60 : decode cX3_tallyUp 60 = .ok (.if_icmp .gt 58, 3) := by decide +kernel
theorem dX3_tallyUp_63 : decode cX3_tallyUp 63 = .ok (.aload_n 0, 1) := by decide +kernel
theorem dX3_tallyUp_64 : decode cX3_tallyUp 64 = .ok (.iload 6, 2) := by decide +kernel
theorem dX3_tallyUp_66 : decode cX3_tallyUp 66 = .ok (.invokevirtual 52, 3) := by decide +kernel
theorem dX3_tallyUp_69 : decode cX3_tallyUp 69 = .ok (.ifCond .eq 49, 3) := by decide +kernel
theorem dX3_tallyUp_72 : decode cX3_tallyUp 72 = .ok (.aload_n 3, 1) := by decide +kernel
theorem dX3_tallyUp_73 : decode cX3_tallyUp 73 = .ok (.iload 4, 2) := by decide +kernel
theorem dX3_tallyUp_75 : decode cX3_tallyUp 75 = .ok (.aload_n 0, 1) := by decide +kernel
theorem dX3_tallyUp_76 : decode cX3_tallyUp 76 = .ok (.getfield 25, 3) := by decide +kernel
theorem dX3_tallyUp_79 : decode cX3_tallyUp 79 = .ok (.iload 6, 2) := by decide +kernel
theorem dX3_tallyUp_81 : decode cX3_tallyUp 81 = .ok (.iaload, 1) := by decide +kernel
theorem dX3_tallyUp_82 : decode cX3_tallyUp 82 = .ok (.aload_n 0, 1) := by decide +kernel
theorem dX3_tallyUp_83 : decode cX3_tallyUp 83 = .ok (.getfield 28, 3) := by decide +kernel
theorem dX3_tallyUp_86 : decode cX3_tallyUp 86 = .ok (.iload 6, 2) := by decide +kernel
theorem dX3_tallyUp_88 : decode cX3_tallyUp 88 = .ok (.iaload, 1) := by decide +kernel
theorem dX3_tallyUp_89 : decode cX3_tallyUp 89 = .ok (.invokevirtual 56, 3) := by decide +kernel
theorem dX3_tallyUp_92 : decode cX3_tallyUp 92 = .ok (.istore 8, 2) := by decide +kernel
theorem dX3_tallyUp_94 : decode cX3_tallyUp 94 = .ok (.aload_n 0, 1) := by decide +kernel
theorem dX3_tallyUp_95 : decode cX3_tallyUp 95 = .ok (.getfield 34, 3) := by decide +kernel
theorem dX3_tallyUp_98 : decode cX3_tallyUp 98 = .ok (.aload_n 0, 1) := by decide +kernel
theorem dX3_tallyUp_99 : decode cX3_tallyUp 99 = .ok (.getfield 22, 3) := by decide +kernel
theorem dX3_tallyUp_102 : decode cX3_tallyUp 102 = .ok (.iload 6, 2) := by decide +kernel
theorem dX3_tallyUp_104 : decode cX3_tallyUp 104 = .ok (.iaload, 1) := by decide +kernel
theorem dX3_tallyUp_105 : decode cX3_tallyUp 105 = .ok (.dup2, 1) := by decide +kernel
theorem dX3_tallyUp_106 : decode cX3_tallyUp 106 = .ok (.iaload, 1) := by decide +kernel
theorem dX3_tallyUp_107 : decode cX3_tallyUp 107 = .ok (.iload 8, 2) := by decide +kernel
theorem dX3_tallyUp_109 : decode cX3_tallyUp 109 = .ok (.iadd, 1) := by decide +kernel
theorem dX3_tallyUp_110 : decode cX3_tallyUp 110 = .ok (.iastore, 1) := by decide +kernel
theorem dX3_tallyUp_111 : decode cX3_tallyUp 111 = .ok (.iload 5, 2) := by decide +kernel
theorem dX3_tallyUp_113 : decode cX3_tallyUp 113 = .ok (.iload 8, 2) := by decide +kernel
theorem dX3_tallyUp_115 : decode cX3_tallyUp 115 = .ok (.iadd, 1) := by decide +kernel
theorem dX3_tallyUp_116 : decode cX3_tallyUp 116 = .ok (.istore 5, 2) := by decide +kernel
theorem dX3_tallyUp_118 : decode cX3_tallyUp 118 = .ok (.aload_n 0, 1) := by decide +kernel
theorem dX3_tallyUp_119 : decode cX3_tallyUp 119 = .ok (.getfield 19, 3) := by decide +kernel
theorem dX3_tallyUp_122 : decode cX3_tallyUp 122 = .ok (.iload 6, 2) := by decide +kernel
theorem dX3_tallyUp_124 : decode cX3_tallyUp 124 = .ok (.iaload, 1) := by decide +kernel
theorem dX3_tallyUp_125 : decode cX3_tallyUp 125 = .ok (.istore 6, 2) := by decide +kernel
theorem dX3_tallyUp_127 : decode cX3_tallyUp 127 = .ok (.iinc 7 1, 3) := by decide +kernel
theorem dX3_tallyUp_130 : decode cX3_tallyUp 130 = .ok (.goto (-92), 3) := by decide +kernel
theorem dX3_tallyUp_133 : decode cX3_tallyUp 133 = .ok (.iload 5, 2) := by decide +kernel
theorem dX3_tallyUp_135 : decode cX3_tallyUp 135 = .ok (.ireturn, 1) := by decide +kernel
theorem dX3_isFirstSeen_0 : decode cX3_isFirstSeen 0 = .ok (.iconst 1, 1) := by decide +kernel
theorem dX3_isFirstSeen_1 : decode cX3_isFirstSeen 1 = .ok (.aload_n 0, 1) := by decide +kernel
theorem dX3_isFirstSeen_2 : decode cX3_isFirstSeen 2 = .ok (.getfield 25, 3) := by decide +kernel
theorem dX3_isFirstSeen_5 : decode cX3_isFirstSeen 5 = .ok (.iload_n 1, 1) := by decide +kernel
theorem dX3_isFirstSeen_6 : decode cX3_isFirstSeen 6 = .ok (.iaload, 1) := by decide +kernel
theorem dX3_isFirstSeen_7 : decode cX3_isFirstSeen 7 = .ok (.ishl, 1) := by decide +kernel
theorem dX3_isFirstSeen_8 : decode cX3_isFirstSeen 8 = .ok (.istore_n 2, 1) := by decide +kernel
theorem dX3_isFirstSeen_9 : decode cX3_isFirstSeen 9 = .ok (.aload_n 0, 1) := by decide +kernel
theorem dX3_isFirstSeen_10 : decode cX3_isFirstSeen 10 = .ok (.getfield 22, 3) := by decide +kernel
theorem dX3_isFirstSeen_13 : decode cX3_isFirstSeen 13 = .ok (.iload_n 1, 1) := by decide +kernel
theorem dX3_isFirstSeen_14 : decode cX3_isFirstSeen 14 = .ok (.iaload, 1) := by decide +kernel
theorem dX3_isFirstSeen_15 : decode cX3_isFirstSeen 15 = .ok (.istore_n 3, 1) := by decide +kernel
theorem dX3_isFirstSeen_16 : decode cX3_isFirstSeen 16 = .ok (.aload_n 0, 1) := by decide +kernel
theorem dX3_isFirstSeen_17 : decode cX3_isFirstSeen 17 = .ok (.getfield 37, 3) := by decide +kernel
theorem dX3_isFirstSeen_20 : decode cX3_isFirstSeen 20 = .ok (.iload_n 3, 1) := by decide +kernel
theorem dX3_isFirstSeen_21 : decode cX3_isFirstSeen 21 = .ok (.iaload, 1) := by decide +kernel
theorem dX3_isFirstSeen_22 : decode cX3_isFirstSeen 22 = .ok (.iload_n 2, 1) := by decide +kernel
theorem dX3_isFirstSeen_23 : decode cX3_isFirstSeen 23 = .ok (.iand, 1) := by decide +kernel
theorem dX3_isFirstSeen_24 : decode cX3_isFirstSeen 24 = .ok (.ifCond .ne 7, 3) := by decide +kernel
theorem dX3_isFirstSeen_27 : decode cX3_isFirstSeen 27 = .ok (.iconst 1, 1) := by decide +kernel
theorem dX3_isFirstSeen_28 : decode cX3_isFirstSeen 28 = .ok (.goto 4, 3) := by decide +kernel
theorem dX3_isFirstSeen_31 : decode cX3_isFirstSeen 31 = .ok (.iconst 0, 1) := by decide +kernel
theorem dX3_isFirstSeen_32 : decode cX3_isFirstSeen 32 = .ok (.istore 4, 2) := by decide +kernel
theorem dX3_isFirstSeen_34 : decode cX3_isFirstSeen 34 = .ok (.aload_n 0, 1) := by decide +kernel
theorem dX3_isFirstSeen_35 : decode cX3_isFirstSeen 35 = .ok (.getfield 37, 3) := by decide +kernel
theorem dX3_isFirstSeen_38 : decode cX3_isFirstSeen 38 = .ok (.iload_n 3, 1) := by decide +kernel
theorem dX3_isFirstSeen_39 : decode cX3_isFirstSeen 39 = .ok (.dup2, 1) := by decide +kernel
theorem dX3_isFirstSeen_40 : decode cX3_isFirstSeen 40 = .ok (.iaload, 1) := by decide +kernel
theorem dX3_isFirstSeen_41 : decode cX3_isFirstSeen 41 = .ok (.iload_n 2, 1) := by decide +kernel
theorem dX3_isFirstSeen_42 : decode cX3_isFirstSeen 42 = .ok (.ior, 1) := by decide +kernel
theorem dX3_isFirstSeen_43 : decode cX3_isFirstSeen 43 = .ok (.iastore, 1) := by decide +kernel
theorem dX3_isFirstSeen_44 : decode cX3_isFirstSeen 44 = .ok (.iload 4, 2) := by decide +kernel
theorem dX3_isFirstSeen_46 : decode cX3_isFirstSeen 46 = .ok (.ireturn, 1) := by decide +kernel
set_option maxRecDepth 20000 in
theorem ggX4_init_J7_fill_53178 : GoodIn wsX4_init wsJ7_fill_53178 := goodIn_sl _ [(15, 1)] rfl (by decide +kernel)
set_option maxRecDepth 20000 in
theorem gX4_init_J7_fill_53178 : GoodIn wsX4_init (va_wsS RX4 36 yJ7_fill_53178 wsJ7_fill_53178) := goodIn_app (goodIn_of _ (by decide +kernel)) ggX4_init_J7_fill_53178
theorem dX4_init_0 : decode cX4_init 0 = .ok (.aload_n 0, 1) := by decide +kernel
theorem dX4_init_1 : decode cX4_init 1 = .ok (.invokespecial 3, 3) := by decide +kernel
theorem dX4_init_4 : decode cX4_init 4 = .ok (.aload_n 0, 1) := by decide +kernel
theorem dX4_init_5 : decode cX4_init 5 = .ok (.sipush 400, 3) := by decide +kernel
theorem dX4_init_8 : decode cX4_init 8 = .ok (.newarray .int, 2) := by decide +kernel
theorem dX4_init_10 : decode cX4_init 10 = .ok (.putfield 9, 3) := by decide +kernel
theorem dX4_init_13 : decode cX4_init 13 = .ok (.aload_n 0, 1) := by decide +kernel
theorem dX4_init_14 : decode cX4_init 14 = .ok (.bipush 20, 2) := by decide +kernel
theorem dX4_init_16 : decode cX4_init 16 = .ok (.newarray .int, 2) := by decide +kernel
theorem dX4_init_18 : decode cX4_init 18 = .ok (.putfield 15, 3) := by decide +kernel
theorem dX4_init_21 : decode cX4_init 21 = .ok (.aload_n 0, 1) := by decide +kernel
theorem dX4_init_22 : decode cX4_init 22 = .ok (.bipush 20, 2) := by decide +kernel
theorem dX4_init_24 : decode cX4_init 24 = .ok (.newarray .int, 2) := by decide +kernel
theorem dX4_init_26 : decode cX4_init 26 = .ok (.putfield 18, 3) := by decide +kernel
theorem dX4_init_29 : decode cX4_init 29 = .ok (.aload_n 0, 1) := by decide +kernel
theorem dX4_init_30 : decode cX4_init 30 = .ok (.bipush 20, 2) := by decide +kernel
theorem dX4_init_32 : decode cX4_init 32 = .ok (.newarray .int, 2) := by decide +kernel
theorem dX4_init_34 : decode cX4_init 34 = .ok (.putfield 21, 3) := by decide +kernel
theorem dX4_init_37 : decode cX4_init 37 = .ok (.aload_n 0, 1) := by decide +kernel
theorem dX4_init_38 : decode cX4_init 38 = .ok (.iconst 0, 1) := by decide +kernel
theorem dX4_init_39 : decode cX4_init 39 = .ok (.putfield 24, 3) := by decide +kernel
theorem dX4_init_42 : decode cX4_init 42 = .ok (.aload_n 0, 1) := by decide +kernel
theorem dX4_init_43 : decode cX4_init 43 = .ok (.aload_n 1, 1) := by decide +kernel
theorem dX4_init_44 : decode cX4_init 44 = .ok (.putfield 28, 3) := by decide +kernel
theorem dX4_init_47 : decode cX4_init 47 = .ok (.aload_n 0, 1) := by decide +kernel
theorem dX4_init_48 : decode cX4_init 48 = .ok (.aload_n 2, 1) := by decide +kernel
theorem dX4_init_49 : decode cX4_init 49 = .ok (.putfield 32, 3) := by decide +kernel
theorem dX4_init_52 : decode cX4_init 52 = .ok (.aload_n 0, 1) := by decide +kernel
theorem dX4_init_53 : decode cX4_init 53 = .ok (.getfield 9, 3) := by decide +kernel
theorem dX4_init_56 : decode cX4_init 56 = .ok (.iconst (-1), 1) := by decide +kernel
theorem dX4_init_57 : decode cX4_init 57 = .ok (.invokestatic 36, 3) := by decide +kernel
theorem dX4_init_60 : decode cX4_init 60 = .ok (.return_, 1) := by decide +kernel
theorem dX4_fill_0 : decode cX4_fill 0 = .ok (.aload_n 0, 1) := by decide +kernel
theorem dX4_fill_1 : decode cX4_fill 1 = .ok (.getfield 9, 3) := by decide +kernel
theorem dX4_fill_4 : decode cX4_fill 4 = .ok (.iload_n 1, 1) := by decide +kernel
theorem dX4_fill_5 : decode cX4_fill 5 = .ok (.iaload, 1) := by decide +kernel
theorem dX4_fill_6 : decode cX4_fill 6 = .ok (.iconst (-1), 1) := by decide +kernel
theorem dX4_fill_7 : decode cX4_fill 7 = .ok (.if_icmp .eq 5, 3) := by decide +kernel
theorem dX4_fill_10 : decode cX4_fill 10 = .ok (.iconst 0, 1) := by decide +kernel
theorem dX4_fill_11 : decode cX4_fill 11 = .ok (.ireturn, 1) := by decide +kernel
theorem dX4_fill_12 : decode cX4_fill 12 = .ok (.aload_n 0, 1) := by decide +kernel
theorem dX4_fill_13 : decode cX4_fill 13 = .ok (.getfield 9, 3) := by decide +kernel
theorem dX4_fill_16 : decode cX4_fill 16 = .ok (.iload_n 1, 1) := by decide +kernel
theorem dX4_fill_17 : decode cX4_fill 17 = .ok (.iload_n 2, 1) := by decide +kernel
theorem dX4_fill_18 : decode cX4_fill 18 = .ok (.iastore, 1) := by decide +kernel
theorem dX4_fill_19 : decode cX4_fill 19 = .ok (.iconst 1, 1) := by decide +kernel
theorem dX4_fill_20 : decode cX4_fill 20 = .ok (.ireturn, 1) := by decide +kernel
set_option maxRecDepth 20000 in
theorem ggX4_pointsOf_X3_tallyUp : GoodIn wsX4_pointsOf wsX3_tallyUp := goodIn_sl _ [(6, 28), (4, 1), (34, 9), (50, 14)] rfl (by decide +kernel)
set_option maxRecDepth 20000 in
theorem gX4_pointsOf_X3_tallyUp_n42 : GoodIn wsX4_pointsOf (wsX3_tallyUp) := ggX4_pointsOf_X3_tallyUp
theorem dX4_pointsOf_0 : decode cX4_pointsOf 0 = .ok (.aload_n 0, 1) := by decide +kernel
theorem dX4_pointsOf_1 : decode cX4_pointsOf 1 = .ok (.getfield 28, 3) := by decide +kernel
theorem dX4_pointsOf_4 : decode cX4_pointsOf 4 = .ok (.iload_n 2, 1) := by decide +kernel
theorem dX4_pointsOf_5 : decode cX4_pointsOf 5 = .ok (.iload_n 3, 1) := by decide +kernel
theorem dX4_pointsOf_6 : decode cX4_pointsOf 6 = .ok (.aload_n 0, 1) := by decide +kernel
theorem dX4_pointsOf_7 : decode cX4_pointsOf 7 = .ok (.getfield 32, 3) := by decide +kernel
theorem dX4_pointsOf_10 : decode cX4_pointsOf 10 = .ok (.invokevirtual 42, 3) := by decide +kernel
theorem dX4_pointsOf_13 : decode cX4_pointsOf 13 = .ok (.pop, 1) := by decide +kernel
theorem dX4_pointsOf_14 : decode cX4_pointsOf 14 = .ok (.aload_n 0, 1) := by decide +kernel
theorem dX4_pointsOf_15 : decode cX4_pointsOf 15 = .ok (.getfield 28, 3) := by decide +kernel
theorem dX4_pointsOf_18 : decode cX4_pointsOf 18 = .ok (.getfield 48, 3) := by decide +kernel
theorem dX4_pointsOf_21 : decode cX4_pointsOf 21 = .ok (.iload_n 1, 1) := by decide +kernel
theorem dX4_pointsOf_22 : decode cX4_pointsOf 22 = .ok (.iaload, 1) := by decide +kernel
theorem dX4_pointsOf_23 : decode cX4_pointsOf 23 = .ok (.ireturn, 1) := by decide +kernel
set_option maxRecDepth 20000 in
theorem ggX4_shareOf_X4_partBox : GoodIn wsX4_shareOf wsX4_partBox := goodIn_sl _ [(6, 1), (1, 1), (7, 51), (5, 1), (58, 22)] rfl (by decide +kernel)
set_option maxRecDepth 20000 in
theorem gX4_shareOf_X4_partBox : GoodIn wsX4_shareOf (wsV RX4 51 RX4 yX4_partBox wsX4_partBox) := goodIn_app (goodIn_of _ (by decide +kernel)) ggX4_shareOf_X4_partBox
theorem dX4_shareOf_0 : decode cX4_shareOf 0 = .ok (.aload_n 0, 1) := by decide +kernel
theorem dX4_shareOf_1 : decode cX4_shareOf 1 = .ok (.iload_n 2, 1) := by decide +kernel
theorem dX4_shareOf_2 : decode cX4_shareOf 2 = .ok (.iload_n 3, 1) := by decide +kernel
theorem dX4_shareOf_3 : decode cX4_shareOf 3 = .ok (.invokevirtual 51, 3) := by decide +kernel
theorem dX4_shareOf_6 : decode cX4_shareOf 6 = .ok (.pop, 1) := by decide +kernel
theorem dX4_shareOf_7 : decode cX4_shareOf 7 = .ok (.aload_n 0, 1) := by decide +kernel
theorem dX4_shareOf_8 : decode cX4_shareOf 8 = .ok (.getfield 15, 3) := by decide +kernel
theorem dX4_shareOf_11 : decode cX4_shareOf 11 = .ok (.iload_n 1, 1) := by decide +kernel
theorem dX4_shareOf_12 : decode cX4_shareOf 12 = .ok (.iaload, 1) := by decide +kernel
theorem dX4_shareOf_13 : decode cX4_shareOf 13 = .ok (.ireturn, 1) := by decide +kernel
set_option maxRecDepth 20000 in
theorem ggX4_paidShareOf_X4_shareOf : GoodIn wsX4_paidShareOf wsX4_shareOf := goodIn_sl _ [(5, 5), (4, 1), (10, 74)] rfl (by decide +kernel)
set_option maxRecDepth 20000 in
theorem gX4_paidShareOf_X4_shareOf : GoodIn wsX4_paidShareOf (wsV RX4 55 RX4 yX4_shareOf wsX4_shareOf) := goodIn_app (goodIn_of _ (by decide +kernel)) ggX4_paidShareOf_X4_shareOf
theorem dX4_paidShareOf_0 : decode cX4_paidShareOf 0 = .ok (.aload_n 0, 1) := by decide +kernel
theorem dX4_paidShareOf_1 : decode cX4_paidShareOf 1 = .ok (.iload_n 1, 1) := by decide +kernel
theorem dX4_paidShareOf_2 : decode cX4_paidShareOf 2 = .ok (.iload_n 2, 1) := by decide +kernel
theorem dX4_paidShareOf_3 : decode cX4_paidShareOf 3 = .ok (.iload_n 2, 1) := by decide +kernel
theorem dX4_paidShareOf_4 : decode cX4_paidShareOf 4 = .ok (.invokevirtual 55, 3) := by decide +kernel
theorem dX4_paidShareOf_7 : decode cX4_paidShareOf 7 = .ok (.ireturn, 1) := by decide +kernel
set_option maxRecDepth 20000 in
theorem ggX4_owedTo_X3_hasMarks : GoodIn wsX4_owedTo wsX3_hasMarks := goodIn_sl _ [(7, 2), (74, 9)] rfl (by decide +kernel)
set_option maxRecDepth 20000 in
theorem gX4_owedTo_X3_hasMarks_n59 : GoodIn wsX4_owedTo (wsX3_hasMarks) := ggX4_owedTo_X3_hasMarks
set_option maxRecDepth 20000 in
theorem ggX4_owedTo_X4_shareOf : GoodIn wsX4_owedTo wsX4_shareOf := goodIn_sl _ [(13, 5), (12, 1), (18, 1), (1, 1), (19, 4), (2, 1), (23, 6), (5, 1), (29, 4), (8, 1), (33, 55)] rfl (by decide +kernel)
set_option maxRecDepth 20000 in
theorem gX4_owedTo_X4_shareOf : GoodIn wsX4_owedTo (wsV RX4 55 RX4 yX4_shareOf wsX4_shareOf) := goodIn_app (goodIn_of _ (by decide +kernel)) ggX4_owedTo_X4_shareOf
theorem dX4_owedTo_0 : decode cX4_owedTo 0 = .ok (.iconst 0, 1) := by decide +kernel
theorem dX4_owedTo_1 : decode cX4_owedTo 1 = .ok (.istore_n 3, 1) := by decide +kernel
theorem dX4_owedTo_2 : decode cX4_owedTo 2 = .ok (.iconst 0, 1) := by decide +kernel
theorem dX4_owedTo_3 : decode cX4_owedTo 3 = .ok (.istore 4, 2) := by decide +kernel
theorem dX4_owedTo_5 : decode cX4_owedTo 5 = .ok (.iload 4, 2) := by decide +kernel
theorem dX4_owedTo_7 : decode cX4_owedTo 7 = .ok (.iload_n 2, 1) := by decide +kernel
theorem dX4_owedTo_8 : decode cX4_owedTo 8 = .ok (.if_icmp .ge 42, 3) := by decide +kernel
theorem dX4_owedTo_11 : decode cX4_owedTo 11 = .ok (.aload_n 0, 1) := by decide +kernel
theorem dX4_owedTo_12 : decode cX4_owedTo 12 = .ok (.getfield 9, 3) := by decide +kernel
theorem dX4_owedTo_15 : decode cX4_owedTo 15 = .ok (.iload 4, 2) := by decide +kernel
theorem dX4_owedTo_17 : decode cX4_owedTo 17 = .ok (.iaload, 1) := by decide +kernel
theorem dX4_owedTo_18 : decode cX4_owedTo 18 = .ok (.ifCond .le 26, 3) := by decide +kernel
theorem dX4_owedTo_21 : decode cX4_owedTo 21 = .ok (.aload_n 0, 1) := by decide +kernel
theorem dX4_owedTo_22 : decode cX4_owedTo 22 = .ok (.getfield 28, 3) := by decide +kernel
theorem dX4_owedTo_25 : decode cX4_owedTo 25 = .ok (.iload 4, 2) := by decide +kernel
theorem dX4_owedTo_27 : decode cX4_owedTo 27 = .ok (.invokevirtual 59, 3) := by decide +kernel
theorem dX4_owedTo_30 : decode cX4_owedTo 30 = .ok (.ifCond .eq 14, 3) := by decide +kernel
theorem dX4_owedTo_33 : decode cX4_owedTo 33 = .ok (.iload_n 3, 1) := by decide +kernel
theorem dX4_owedTo_34 : decode cX4_owedTo 34 = .ok (.aload_n 0, 1) := by decide +kernel
theorem dX4_owedTo_35 : decode cX4_owedTo 35 = .ok (.iload_n 1, 1) := by decide +kernel
theorem dX4_owedTo_36 : decode cX4_owedTo 36 = .ok (.iload 4, 2) := by decide +kernel
theorem dX4_owedTo_38 : decode cX4_owedTo 38 = .ok (.iload_n 2, 1) := by decide +kernel
theorem dX4_owedTo_39 : decode cX4_owedTo 39 = .ok (.invokevirtual 55, 3) := by decide +kernel
theorem dX4_owedTo_42 : decode cX4_owedTo 42 = .ok (.iadd, 1) := by decide +kernel
theorem dX4_owedTo_43 : decode cX4_owedTo 43 = .ok (.istore_n 3, 1) := by decide +kernel
theorem dX4_owedTo_44 : decode cX4_owedTo 44 = .ok (.iinc 4 1, 3) := by decide +kernel
theorem dX4_owedTo_47 : decode cX4_owedTo 47 = .ok (.goto (-42), 3) := by decide +kernel
theorem dX4_owedTo_50 : decode cX4_owedTo 50 = .ok (.iload_n 3, 1) := by decide +kernel
theorem dX4_owedTo_51 : decode cX4_owedTo 51 = .ok (.aload_n 0, 1) := by decide +kernel
theorem dX4_owedTo_52 : decode cX4_owedTo 52 = .ok (.getfield 18, 3) := by decide +kernel
theorem dX4_owedTo_55 : decode cX4_owedTo 55 = .ok (.iload_n 1, 1) := by decide +kernel
theorem dX4_owedTo_56 : decode cX4_owedTo 56 = .ok (.iaload, 1) := by decide +kernel
theorem dX4_owedTo_57 : decode cX4_owedTo 57 = .ok (.isub, 1) := by decide +kernel
theorem dX4_owedTo_58 : decode cX4_owedTo 58 = .ok (.ireturn, 1) := by decide +kernel
set_option maxRecDepth 20000 in
theorem ggX4_payShares_X4_partBox : GoodIn wsX4_payShares wsX4_partBox := goodIn_sl _ [(8, 1), (3, 1), (9, 51), (7, 1), (60, 22)] rfl (by decide +kernel)
set_option maxRecDepth 20000 in
theorem gX4_payShares_X4_partBox : GoodIn wsX4_payShares (wsV RX4 51 RX4 yX4_partBox wsX4_partBox) := goodIn_app (goodIn_of _ (by decide +kernel)) ggX4_payShares_X4_partBox
theorem dX4_payShares_0 : decode cX4_payShares 0 = .ok (.aload_n 0, 1) := by decide +kernel
theorem dX4_payShares_1 : decode cX4_payShares 1 = .ok (.dup, 1) := by decide +kernel
theorem dX4_payShares_2 : decode cX4_payShares 2 = .ok (.getfield 24, 3) := by decide +kernel
theorem dX4_payShares_5 : decode cX4_payShares 5 = .ok (.aload_n 0, 1) := by decide +kernel
theorem dX4_payShares_6 : decode cX4_payShares 6 = .ok (.iload_n 1, 1) := by decide +kernel
theorem dX4_payShares_7 : decode cX4_payShares 7 = .ok (.iload_n 1, 1) := by decide +kernel
theorem dX4_payShares_8 : decode cX4_payShares 8 = .ok (.invokevirtual 51, 3) := by decide +kernel
theorem dX4_payShares_11 : decode cX4_payShares 11 = .ok (.iadd, 1) := by decide +kernel
theorem dX4_payShares_12 : decode cX4_payShares 12 = .ok (.putfield 24, 3) := by decide +kernel
theorem dX4_payShares_15 : decode cX4_payShares 15 = .ok (.iconst 0, 1) := by decide +kernel
theorem dX4_payShares_16 : decode cX4_payShares 16 = .ok (.istore_n 2, 1) := by decide +kernel
theorem dX4_payShares_17 : decode cX4_payShares 17 = .ok (.iload_n 2, 1) := by decide +kernel
theorem dX4_payShares_18 : decode cX4_payShares 18 = .ok (.bipush 20, 2) := by decide +kernel
theorem dX4_payShares_20 : decode cX4_payShares 20 = .ok (.if_icmp .ge 24, 3) := by decide +kernel
theorem dX4_payShares_23 : decode cX4_payShares 23 = .ok (.aload_n 0, 1) := by decide +kernel
theorem dX4_payShares_24 : decode cX4_payShares 24 = .ok (.getfield 18, 3) := by decide +kernel
theorem dX4_payShares_27 : decode cX4_payShares 27 = .ok (.iload_n 2, 1) := by decide +kernel
theorem dX4_payShares_28 : decode cX4_payShares 28 = .ok (.dup2, 1) := by decide +kernel
theorem dX4_payShares_29 : decode cX4_payShares 29 = .ok (.iaload, 1) := by decide +kernel
theorem dX4_payShares_30 : decode cX4_payShares 30 = .ok (.aload_n 0, 1) := by decide +kernel
theorem dX4_payShares_31 : decode cX4_payShares 31 = .ok (.getfield 15, 3) := by decide +kernel
theorem dX4_payShares_34 : decode cX4_payShares 34 = .ok (.iload_n 2, 1) := by decide +kernel
theorem dX4_payShares_35 : decode cX4_payShares 35 = .ok (.iaload, 1) := by decide +kernel
theorem dX4_payShares_36 : decode cX4_payShares 36 = .ok (.iadd, 1) := by decide +kernel
theorem dX4_payShares_37 : decode cX4_payShares 37 = .ok (.iastore, 1) := by decide +kernel
theorem dX4_payShares_38 : decode cX4_payShares 38 = .ok (.iinc 2 1, 3) := by decide +kernel
theorem dX4_payShares_41 : decode cX4_payShares 41 = .ok (.goto (-24), 3) := by decide +kernel
theorem dX4_payShares_44 : decode cX4_payShares 44 = .ok (.return_, 1) := by decide +kernel
set_option maxRecDepth 20000 in
theorem ggX4_payWorth_X2_worthOf : GoodIn wsX4_payWorth wsX2_worthOf := goodIn_sl _ [(5, 15)] rfl (by decide +kernel)
set_option maxRecDepth 20000 in
theorem gX4_payWorth_X2_worthOf_n68 : GoodIn wsX4_payWorth (wsX2_worthOf) := ggX4_payWorth_X2_worthOf
theorem dX4_payWorth_0 : decode cX4_payWorth 0 = .ok (.iconst 0, 1) := by decide +kernel
theorem dX4_payWorth_1 : decode cX4_payWorth 1 = .ok (.istore_n 2, 1) := by decide +kernel
theorem dX4_payWorth_2 : decode cX4_payWorth 2 = .ok (.iload_n 2, 1) := by decide +kernel
theorem dX4_payWorth_3 : decode cX4_payWorth 3 = .ok (.aload_n 1, 1) := by decide +kernel
theorem dX4_payWorth_4 : decode cX4_payWorth 4 = .ok (.getfield 63, 3) := by decide +kernel
theorem dX4_payWorth_7 : decode cX4_payWorth 7 = .ok (.if_icmp .ge 23, 3) := by decide +kernel
theorem dX4_payWorth_10 : decode cX4_payWorth 10 = .ok (.aload_n 0, 1) := by decide +kernel
theorem dX4_payWorth_11 : decode cX4_payWorth 11 = .ok (.getfield 21, 3) := by decide +kernel
theorem dX4_payWorth_14 : decode cX4_payWorth 14 = .ok (.iload_n 2, 1) := by decide +kernel
theorem dX4_payWorth_15 : decode cX4_payWorth 15 = .ok (.dup2, 1) := by decide +kernel
theorem dX4_payWorth_16 : decode cX4_payWorth 16 = .ok (.iaload, 1) := by decide +kernel
theorem dX4_payWorth_17 : decode cX4_payWorth 17 = .ok (.aload_n 1, 1) := by decide +kernel
theorem dX4_payWorth_18 : decode cX4_payWorth 18 = .ok (.iload_n 2, 1) := by decide +kernel
theorem dX4_payWorth_19 : decode cX4_payWorth 19 = .ok (.invokevirtual 68, 3) := by decide +kernel
theorem dX4_payWorth_22 : decode cX4_payWorth 22 = .ok (.iadd, 1) := by decide +kernel
theorem dX4_payWorth_23 : decode cX4_payWorth 23 = .ok (.iastore, 1) := by decide +kernel
theorem dX4_payWorth_24 : decode cX4_payWorth 24 = .ok (.iinc 2 1, 3) := by decide +kernel
theorem dX4_payWorth_27 : decode cX4_payWorth 27 = .ok (.goto (-25), 3) := by decide +kernel
theorem dX4_payWorth_30 : decode cX4_payWorth 30 = .ok (.return_, 1) := by decide +kernel
set_option maxRecDepth 20000 in
theorem ggX4_partBox_J7_fill_53178 : GoodIn wsX4_partBox wsJ7_fill_53178 := goodIn_sl _ [(12, 1)] rfl (by decide +kernel)
set_option maxRecDepth 20000 in
theorem gX4_partBox_J7_fill_53178 : GoodIn wsX4_partBox (va_wsS RX4 36 yJ7_fill_53178 wsJ7_fill_53178) := goodIn_app (goodIn_of _ (by decide +kernel)) ggX4_partBox_J7_fill_53178
set_option maxRecDepth 20000 in
theorem ggX4_partBox_X3_tallyUp : GoodIn wsX4_partBox wsX3_tallyUp := goodIn_sl _ [(16, 10), (10, 3), (26, 15), (14, 1), (41, 9), (62, 14)] rfl (by decide +kernel)
set_option maxRecDepth 20000 in
theorem gX4_partBox_X3_tallyUp_n42 : GoodIn wsX4_partBox (wsX3_tallyUp) := ggX4_partBox_X3_tallyUp
set_option maxRecDepth 20000 in
theorem ggX4_partBox_X4_spreadRest : GoodIn wsX4_partBox wsX4_spreadRest := goodIn_sl _ [(54, 1), (7, 1), (1, 1), (55, 16)] rfl (by decide +kernel)
set_option maxRecDepth 20000 in
theorem gX4_partBox_X4_spreadRest : GoodIn wsX4_partBox (wsV RX4 77 RX4 yX4_spreadRest wsX4_spreadRest) := goodIn_app (goodIn_of _ (by decide +kernel)) ggX4_partBox_X4_spreadRest
theorem dX4_partBox_0 : decode cX4_partBox 0 = .ok (.aload_n 0, 1) := by decide +kernel
theorem dX4_partBox_1 : decode cX4_partBox 1 = .ok (.getfield 15, 3) := by decide +kernel
theorem dX4_partBox_4 : decode cX4_partBox 4 = .ok (.iconst 0, 1) := by decide +kernel
theorem dX4_partBox_5 : decode cX4_partBox 5 = .ok (.invokestatic 36, 3) := by decide +kernel
theorem dX4_partBox_8 : decode cX4_partBox 8 = .ok (.aload_n 0, 1) := by decide +kernel
theorem dX4_partBox_9 : decode cX4_partBox 9 = .ok (.getfield 9, 3) := by decide +kernel
theorem dX4_partBox_12 : decode cX4_partBox 12 = .ok (.iload_n 1, 1) := by decide +kernel
theorem dX4_partBox_13 : decode cX4_partBox 13 = .ok (.iaload, 1) := by decide +kernel
theorem dX4_partBox_14 : decode cX4_partBox 14 = .ok (.iconst 0, 1) := by decide +kernel
theorem dX4_partBox_15 : decode cX4_partBox 15 = .ok (.invokestatic 72, 3) := by decide +kernel
theorem dX4_partBox_18 : decode cX4_partBox 18 = .ok (.istore_n 3, 1) := by decide +kernel
theorem dX4_partBox_19 : decode cX4_partBox 19 = .ok (.iload_n 3, 1) := by decide +kernel
theorem dX4_partBox_20 : decode cX4_partBox 20 = .ok (.ifCond .ne 7, 3) := by decide +kernel
theorem dX4_partBox_23 : decode cX4_partBox 23 = .ok (.iconst 0, 1) := by decide +kernel
theorem dX4_partBox_24 : decode cX4_partBox 24 = .ok (.goto 16, 3) := by decide +kernel
theorem dX4_partBox_27 : decode cX4_partBox 27 = .ok (.aload_n 0, 1) := by decide +kernel
theorem dX4_partBox_28 : decode cX4_partBox 28 = .ok (.getfield 28, 3) := by decide +kernel
theorem dX4_partBox_31 : decode cX4_partBox 31 = .ok (.iload_n 1, 1) := by decide +kernel
theorem dX4_partBox_32 : decode cX4_partBox 32 = .ok (.iload_n 2, 1) := by decide +kernel
theorem dX4_partBox_33 : decode cX4_partBox 33 = .ok (.aload_n 0, 1) := by decide +kernel
theorem dX4_partBox_34 : decode cX4_partBox 34 = .ok (.getfield 32, 3) := by decide +kernel
theorem dX4_partBox_37 : decode cX4_partBox 37 = .ok (.invokevirtual 42, 3) := by decide +kernel
theorem dX4_partBox_40 : decode cX4_partBox 40 = .ok (.istore 4, 2) := by decide +kernel
theorem dX4_partBox_42 : decode cX4_partBox 42 = .ok (.iload 4, 2) := by decide +kernel
theorem dX4_partBox_44 : decode cX4_partBox 44 = .ok (.ifCond .gt 5, 3) := by decide +kernel
theorem dX4_partBox_47 : decode cX4_partBox 47 = .ok (.iload_n 3, 1) := by decide +kernel
theorem dX4_partBox_48 : decode cX4_partBox 48 = .ok (.ireturn, 1) := by decide +kernel
theorem dX4_partBox_49 : decode cX4_partBox 49 = .ok (.iload_n 3, 1) := by decide +kernel
theorem dX4_partBox_50 : decode cX4_partBox 50 = .ok (.istore 5, 2) := by decide +kernel
theorem dX4_partBox_52 : decode cX4_partBox 52 = .ok (.iconst 0, 1) := by decide +kernel
theorem dX4_partBox_53 : decode cX4_partBox 53 = .ok (.istore 6, 2) := by decide +kernel
theorem dX4_partBox_55 : decode cX4_partBox 55 = .ok (.iload 6, 2) := by decide +kernel
theorem dX4_partBox_57 : decode cX4_partBox 57 = .ok (.bipush 20, 2) := by decide +kernel
theorem dX4_partBox_59 : decode cX4_partBox 59 = .ok (.if_icmp .ge 43, 3) := by decide +kernel
theorem dX4_partBox_62 : decode cX4_partBox 62 = .ok (.aload_n 0, 1) := by decide +kernel
theorem dX4_partBox_63 : decode cX4_partBox 63 = .ok (.getfield 15, 3) := by decide +kernel
theorem dX4_partBox_66 : decode cX4_partBox 66 = .ok (.iload 6, 2) := by decide +kernel
theorem dX4_partBox_68 : decode cX4_partBox 68 = .ok (.iload_n 3, 1) := by decide +kernel
theorem dX4_partBox_69 : decode cX4_partBox 69 = .ok (.aload_n 0, 1) := by decide +kernel
theorem dX4_partBox_70 : decode cX4_partBox 70 = .ok (.getfield 28, 3) := by decide +kernel
theorem dX4_partBox_73 : decode cX4_partBox 73 = .ok (.getfield 48, 3) := by decide +kernel
theorem dX4_partBox_76 : decode cX4_partBox 76 = .ok (.iload 6, 2) := by decide +kernel
theorem dX4_partBox_78 : decode cX4_partBox 78 = .ok (.iaload, 1) := by decide +kernel
theorem dX4_partBox_79 : decode cX4_partBox 79 = .ok (.imul, 1) := by decide +kernel
theorem dX4_partBox_80 : decode cX4_partBox 80 = .ok (.iload 4, 2) := by decide +kernel
theorem dX4_partBox_82 : decode cX4_partBox 82 = .ok (.idiv, 1) := by decide +kernel
theorem dX4_partBox_83 : decode cX4_partBox 83 = .ok (.iastore, 1) := by decide +kernel
theorem dX4_partBox_84 : decode cX4_partBox 84 = .ok (.iload 5, 2) := by decide +kernel
theorem dX4_partBox_86 : decode cX4_partBox 86 = .ok (.aload_n 0, 1) := by decide +kernel
theorem dX4_partBox_87 : decode cX4_partBox 87 = .ok (.getfield 15, 3) := by decide +kernel
theorem dX4_partBox_90 : decode cX4_partBox 90 = .ok (.iload 6, 2) := by decide +kernel
theorem dX4_partBox_92 : decode cX4_partBox 92 = .ok (.iaload, 1) := by decide +kernel
theorem dX4_partBox_93 : decode cX4_partBox 93 = .ok (.isub, 1) := by decide +kernel
theorem dX4_partBox_94 : decode cX4_partBox 94 = .ok (.istore 5, 2) := by decide +kernel
theorem dX4_partBox_96 : decode cX4_partBox 96 = .ok (.iinc 6 1, 3) := by decide +kernel
theorem dX4_partBox_99 : decode cX4_partBox 99 = .ok (.goto (-44), 3) := by decide +kernel
theorem dX4_partBox_102 : decode cX4_partBox 102 = .ok (.aload_n 0, 1) := by decide +kernel
theorem dX4_partBox_103 : decode cX4_partBox 103 = .ok (.iload 5, 2) := by decide +kernel
theorem dX4_partBox_105 : decode cX4_partBox 105 = .ok (.invokevirtual 77, 3) := by decide +kernel
theorem dX4_partBox_108 : decode cX4_partBox 108 = .ok (.iconst 0, 1) := by decide +kernel
theorem dX4_partBox_109 : decode cX4_partBox 109 = .ok (.ireturn, 1) := by decide +kernel
theorem dX4_spreadRest_0 : decode cX4_spreadRest 0 = .ok (.iload_n 1, 1) := by decide +kernel
theorem dX4_spreadRest_1 : decode cX4_spreadRest 1 = .ok (.istore_n 2, 1) := by decide +kernel
theorem dX4_spreadRest_2 : decode cX4_spreadRest 2 = .ok (.iconst 0, 1) := by decide +kernel
theorem dX4_spreadRest_3 : decode cX4_spreadRest 3 = .ok (.istore_n 3, 1) := by decide +kernel
theorem dX4_spreadRest_4 : decode cX4_spreadRest 4 = .ok (.iload_n 3, 1) := by decide +kernel
theorem dX4_spreadRest_5 : decode cX4_spreadRest 5 = .ok (.bipush 20, 2) := by decide +kernel
theorem dX4_spreadRest_7 : decode cX4_spreadRest 7 = .ok (.if_icmp .ge 38, 3) := by decide +kernel
theorem dX4_spreadRest_10 : decode cX4_spreadRest 10 = .ok (.iload_n 2, 1) := by decide +kernel
theorem dX4_spreadRest_11 : decode cX4_spreadRest 11 = .ok (.ifCond .le 34, 3) := by decide +kernel
theorem dX4_spreadRest_14 : decode cX4_spreadRest 14 = .ok (.aload_n 0, 1) := by decide +kernel
theorem dX4_spreadRest_15 : decode cX4_spreadRest 15 = .ok (.getfield 28, 3) := by decide +kernel
theorem dX4_spreadRest_18 : decode cX4_spreadRest 18 = .ok (.getfield 48, 3) := by decide +kernel
theorem dX4_spreadRest_21 : decode cX4_spreadRest 21 = .ok (.iload_n 3, 1) := by decide +kernel
theorem dX4_spreadRest_22 : decode cX4_spreadRest 22 = .ok (.iaload, 1) := by decide +kernel
theorem dX4_spreadRest_23 : decode cX4_spreadRest 23 = .ok (.ifCond .le 16, 3) := by decide +kernel
theorem dX4_spreadRest_26 : decode cX4_spreadRest 26 = .ok (.aload_n 0, 1) := by decide +kernel
theorem dX4_spreadRest_27 : decode cX4_spreadRest 27 = .ok (.getfield 15, 3) := by decide +kernel
theorem dX4_spreadRest_30 : decode cX4_spreadRest 30 = .ok (.iload_n 3, 1) := by decide +kernel
theorem dX4_spreadRest_31 : decode cX4_spreadRest 31 = .ok (.dup2, 1) := by decide +kernel
theorem dX4_spreadRest_32 : decode cX4_spreadRest 32 = .ok (.iaload, 1) := by decide +kernel
theorem dX4_spreadRest_33 : decode cX4_spreadRest 33 = .ok (.iconst 1, 1) := by decide +kernel
theorem dX4_spreadRest_34 : decode cX4_spreadRest 34 = .ok (.iadd, 1) := by decide +kernel
theorem dX4_spreadRest_35 : decode cX4_spreadRest 35 = .ok (.iastore, 1) := by decide +kernel
theorem dX4_spreadRest_36 : decode cX4_spreadRest 36 = .ok (.iinc 2 (-1), 3) := by decide +kernel
theorem dX4_spreadRest_39 : decode cX4_spreadRest 39 = .ok (.iinc 3 1, 3) := by decide +kernel
theorem dX4_spreadRest_42 : decode cX4_spreadRest 42 = .ok (.goto (-38), 3) := by decide +kernel
theorem dX4_spreadRest_45 : decode cX4_spreadRest 45 = .ok (.return_, 1) := by decide +kernel
theorem dX5_init_0 : decode cX5_init 0 = .ok (.aload_n 0, 1) := by decide +kernel
theorem dX5_init_1 : decode cX5_init 1 = .ok (.invokespecial 3, 3) := by decide +kernel
theorem dX5_init_4 : decode cX5_init 4 = .ok (.aload_n 0, 1) := by decide +kernel
theorem dX5_init_5 : decode cX5_init 5 = .ok (.bipush 13, 2) := by decide +kernel
theorem dX5_init_7 : decode cX5_init 7 = .ok (.newarray .int, 2) := by decide +kernel
theorem dX5_init_9 : decode cX5_init 9 = .ok (.putfield 9, 3) := by decide +kernel
theorem dX5_init_12 : decode cX5_init 12 = .ok (.aload_n 0, 1) := by decide +kernel
theorem dX5_init_13 : decode cX5_init 13 = .ok (.iconst 0, 1) := by decide +kernel
theorem dX5_init_14 : decode cX5_init 14 = .ok (.putfield 15, 3) := by decide +kernel
theorem dX5_init_17 : decode cX5_init 17 = .ok (.aload_n 0, 1) := by decide +kernel
theorem dX5_init_18 : decode cX5_init 18 = .ok (.iconst 0, 1) := by decide +kernel
theorem dX5_init_19 : decode cX5_init 19 = .ok (.putfield 19, 3) := by decide +kernel
theorem dX5_init_22 : decode cX5_init 22 = .ok (.aload_n 0, 1) := by decide +kernel
theorem dX5_init_23 : decode cX5_init 23 = .ok (.iconst 0, 1) := by decide +kernel
theorem dX5_init_24 : decode cX5_init 24 = .ok (.putfield 22, 3) := by decide +kernel
theorem dX5_init_27 : decode cX5_init 27 = .ok (.aload_n 0, 1) := by decide +kernel
theorem dX5_init_28 : decode cX5_init 28 = .ok (.aload_n 1, 1) := by decide +kernel
theorem dX5_init_29 : decode cX5_init 29 = .ok (.putfield 25, 3) := by decide +kernel
theorem dX5_init_32 : decode cX5_init 32 = .ok (.return_, 1) := by decide +kernel
set_option maxRecDepth 20000 in
theorem ggX5_read_X5_skipBlanks : GoodIn wsX5_read wsX5_skipBlanks := goodIn_sl _ [(14, 1), (1, 1), (9, 1), (15, 6), (107, 7)] rfl (by decide +kernel)
set_option maxRecDepth 20000 in
theorem gX5_read_X5_skipBlanks : GoodIn wsX5_read (wsV RX5 38 RX5 yX5_skipBlanks wsX5_skipBlanks) := goodIn_app (goodIn_of _ (by decide +kernel)) ggX5_read_X5_skipBlanks
set_option maxRecDepth 20000 in
theorem ggX5_read_X6_at : GoodIn wsX5_read wsX6_at := goodIn_sl _ [(18, 3), (112, 2)] rfl (by decide +kernel)
set_option maxRecDepth 20000 in
theorem gX5_read_X6_at_n41 : GoodIn wsX5_read (wsX6_at) := ggX5_read_X6_at
set_option maxRecDepth 20000 in
theorem ggX5_read_X5_readClause : GoodIn wsX5_read wsX5_readClause := goodIn_sl _ [(24, 1), (1, 1), (3, 1), (2, 1), (4, 1), (10, 5), (9, 1), (15, 6), (25, 78), (107, 7)] rfl (by decide +kernel)
set_option maxRecDepth 20000 in
theorem gX5_read_X5_readClause : GoodIn wsX5_read (wsV RX5 47 RX5 yX5_readClause wsX5_readClause) := goodIn_app (goodIn_of _ (by decide +kernel)) ggX5_read_X5_readClause
set_option maxRecDepth 20000 in
theorem ggX5_read_X5_readSemicolon : GoodIn wsX5_read wsX5_readSemicolon := goodIn_sl _ [(106, 1), (9, 1), (1, 1), (10, 11), (88, 4), (3, 1), (107, 7)] rfl (by decide +kernel)
set_option maxRecDepth 20000 in
theorem gX5_read_X5_readSemicolon : GoodIn wsX5_read (wsV RX5 50 RX5 yX5_readSemicolon wsX5_readSemicolon) := goodIn_app (goodIn_of _ (by decide +kernel)) ggX5_read_X5_readSemicolon
theorem dX5_read_0 : decode cX5_read 0 = .ok (.aload_n 0, 1) := by decide +kernel
theorem dX5_read_1 : decode cX5_read 1 = .ok (.iconst 0, 1) := by decide +kernel
theorem dX5_read_2 : decode cX5_read 2 = .ok (.putfield 15, 3) := by decide +kernel
theorem dX5_read_5 : decode cX5_read 5 = .ok (.aload_n 0, 1) := by decide +kernel
theorem dX5_read_6 : decode cX5_read 6 = .ok (.iconst 0, 1) := by decide +kernel
theorem dX5_read_7 : decode cX5_read 7 = .ok (.putfield 19, 3) := by decide +kernel
theorem dX5_read_10 : decode cX5_read 10 = .ok (.aload_n 0, 1) := by decide +kernel
theorem dX5_read_11 : decode cX5_read 11 = .ok (.iconst 0, 1) := by decide +kernel
theorem dX5_read_12 : decode cX5_read 12 = .ok (.putfield 22, 3) := by decide +kernel
theorem dX5_read_15 : decode cX5_read 15 = .ok (.getstatic 29, 3) := by decide +kernel
theorem dX5_read_18 : decode cX5_read 18 = .ok (.iconst 0, 1) := by decide +kernel
theorem dX5_read_19 : decode cX5_read 19 = .ok (.aload_n 0, 1) := by decide +kernel
theorem dX5_read_20 : decode cX5_read 20 = .ok (.getfield 9, 3) := by decide +kernel
theorem dX5_read_23 : decode cX5_read 23 = .ok (.iconst 0, 1) := by decide +kernel
theorem dX5_read_24 : decode cX5_read 24 = .ok (.bipush 13, 2) := by decide +kernel
theorem dX5_read_26 : decode cX5_read 26 = .ok (.invokestatic 32, 3) := by decide +kernel
theorem dX5_read_29 : decode cX5_read 29 = .ok (.aload_n 0, 1) := by decide +kernel
theorem dX5_read_30 : decode cX5_read 30 = .ok (.invokevirtual 38, 3) := by decide +kernel
theorem dX5_read_33 : decode cX5_read 33 = .ok (.aload_n 0, 1) := by decide +kernel
theorem dX5_read_34 : decode cX5_read 34 = .ok (.getfield 25, 3) := by decide +kernel
theorem dX5_read_37 : decode cX5_read 37 = .ok (.aload_n 0, 1) := by decide +kernel
theorem dX5_read_38 : decode cX5_read 38 = .ok (.getfield 15, 3) := by decide +kernel
theorem dX5_read_41 : decode cX5_read 41 = .ok (.invokevirtual 41, 3) := by decide +kernel
theorem dX5_read_44 : decode cX5_read 44 = .ok (.iconst (-1), 1) := by decide +kernel
theorem dX5_read_45 : decode cX5_read 45 = .ok (.if_icmp .eq 7, 3) := by decide +kernel
theorem dX5_read_48 : decode cX5_read 48 = .ok (.iconst 1, 1) := by decide +kernel
theorem dX5_read_49 : decode cX5_read 49 = .ok (.goto 4, 3) := by decide +kernel
theorem dX5_read_52 : decode cX5_read 52 = .ok (.iconst 0, 1) := by decide +kernel
theorem dX5_read_53 : decode cX5_read 53 = .ok (.istore_n 1, 1) := by decide +kernel
theorem dX5_read_54 : decode cX5_read 54 = .ok (.iconst 0, 1) := by decide +kernel
theorem dX5_read_55 : decode cX5_read 55 = .ok (.istore_n 2, 1) := by decide +kernel
theorem dX5_read_56 : decode cX5_read 56 = .ok (.iload_n 2, 1) := by decide +kernel
theorem dX5_read_57 : decode cX5_read 57 = .ok (.sipush 200, 3) := by decide +kernel
theorem dX5_read_60 : decode cX5_read 60 = .ok (.if_icmp .gt 37, 3) := by decide +kernel
theorem dX5_read_63 : decode cX5_read 63 = .ok (.iload_n 1, 1) := by decide +kernel
theorem dX5_read_64 : decode cX5_read 64 = .ok (.ifCond .eq 33, 3) := by decide +kernel
theorem dX5_read_67 : decode cX5_read 67 = .ok (.aload_n 0, 1) := by decide +kernel
theorem dX5_read_68 : decode cX5_read 68 = .ok (.invokevirtual 47, 3) := by decide +kernel
theorem dX5_read_71 : decode cX5_read 71 = .ok (.aload_n 0, 1) := by decide +kernel
theorem dX5_read_72 : decode cX5_read 72 = .ok (.getfield 22, 3) := by decide +kernel
theorem dX5_read_75 : decode cX5_read 75 = .ok (.ifCond .ne 14, 3) := by decide +kernel
theorem dX5_read_78 : decode cX5_read 78 = .ok (.aload_n 0, 1) := by decide +kernel
theorem dX5_read_79 : decode cX5_read 79 = .ok (.invokevirtual 50, 3) := by decide +kernel
theorem dX5_read_82 : decode cX5_read 82 = .ok (.ifCond .eq 7, 3) := by decide +kernel
theorem dX5_read_85 : decode cX5_read 85 = .ok (.iconst 1, 1) := by decide +kernel
theorem dX5_read_86 : decode cX5_read 86 = .ok (.goto 4, 3) := by decide +kernel
theorem dX5_read_89 : decode cX5_read 89 = .ok (.iconst 0, 1) := by decide +kernel
theorem dX5_read_90 : decode cX5_read 90 = .ok (.istore_n 1, 1) := by decide +kernel
theorem dX5_read_91 : decode cX5_read 91 = .ok (.iinc 2 1, 3) := by decide +kernel
theorem dX5_read_94 : decode cX5_read 94 = .ok (.goto (-38), 3) := by decide +kernel
theorem dX5_read_97 : decode cX5_read 97 = .ok (.aload_n 0, 1) := by decide +kernel
theorem dX5_read_98 : decode cX5_read 98 = .ok (.getfield 22, 3) := by decide +kernel
theorem dX5_read_101 : decode cX5_read 101 = .ok (.ireturn, 1) := by decide +kernel
theorem dX5_fail_0 : decode cX5_fail 0 = .ok (.aload_n 0, 1) := by decide +kernel
theorem dX5_fail_1 : decode cX5_fail 1 = .ok (.iconst 1, 1) := by decide +kernel
theorem dX5_fail_2 : decode cX5_fail 2 = .ok (.bipush 8, 2) := by decide +kernel
theorem dX5_fail_4 : decode cX5_fail 4 = .ok (.iload_n 1, 1) := by decide +kernel
theorem dX5_fail_5 : decode cX5_fail 5 = .ok (.imul, 1) := by decide +kernel
theorem dX5_fail_6 : decode cX5_fail 6 = .ok (.iadd, 1) := by decide +kernel
theorem dX5_fail_7 : decode cX5_fail 7 = .ok (.iload_n 2, 1) := by decide +kernel
theorem dX5_fail_8 : decode cX5_fail 8 = .ok (.iadd, 1) := by decide +kernel
theorem dX5_fail_9 : decode cX5_fail 9 = .ok (.putfield 22, 3) := by decide +kernel
theorem dX5_fail_12 : decode cX5_fail 12 = .ok (.return_, 1) := by decide +kernel
set_option maxRecDepth 20000 in
theorem ggX5_skipBlanks_X6_at : GoodIn wsX5_skipBlanks wsX6_at := goodIn_sl _ [(6, 3), (14, 2)] rfl (by decide +kernel)
set_option maxRecDepth 20000 in
theorem gX5_skipBlanks_X6_at_n41 : GoodIn wsX5_skipBlanks (wsX6_at) := ggX5_skipBlanks_X6_at
theorem dX5_skipBlanks_0 : decode cX5_skipBlanks 0 = .ok (.aload_n 0, 1) := by decide +kernel
theorem dX5_skipBlanks_1 : decode cX5_skipBlanks 1 = .ok (.getfield 15, 3) := by decide +kernel
theorem dX5_skipBlanks_4 : decode cX5_skipBlanks 4 = .ok (.aload_n 0, 1) := by decide +kernel
theorem dX5_skipBlanks_5 : decode cX5_skipBlanks 5 = .ok (.getfield 25, 3) := by decide +kernel
theorem dX5_skipBlanks_8 : decode cX5_skipBlanks 8 = .ok (.getfield 54, 3) := by decide +kernel
theorem dX5_skipBlanks_11 : decode cX5_skipBlanks 11 = .ok (.if_icmp .ge 32, 3) := by decide +kernel
theorem dX5_skipBlanks_14 : decode cX5_skipBlanks 14 = .ok (.aload_n 0, 1) := by decide +kernel
theorem dX5_skipBlanks_15 : decode cX5_skipBlanks 15 = .ok (.getfield 25, 3) := by decide +kernel
theorem dX5_skipBlanks_18 : decode cX5_skipBlanks 18 = .ok (.aload_n 0, 1) := by decide +kernel
theorem dX5_skipBlanks_19 : decode cX5_skipBlanks 19 = .ok (.getfield 15, 3) := by decide +kernel
theorem dX5_skipBlanks_22 : decode cX5_skipBlanks 22 = .ok (.invokevirtual 41, 3) := by decide +kernel
theorem dX5_skipBlanks_25 : decode cX5_skipBlanks 25 = .ok (.bipush 32, 2) := by decide +kernel
theorem dX5_skipBlanks_27 : decode cX5_skipBlanks 27 = .ok (.if_icmp .ne 16, 3) := by decide +kernel
theorem dX5_skipBlanks_30 : decode cX5_skipBlanks 30 = .ok (.aload_n 0, 1) := by decide +kernel
theorem dX5_skipBlanks_31 : decode cX5_skipBlanks 31 = .ok (.dup, 1) := by decide +kernel
theorem dX5_skipBlanks_32 : decode cX5_skipBlanks 32 = .ok (.getfield 15, 3) := by decide +kernel
theorem dX5_skipBlanks_35 : decode cX5_skipBlanks 35 = .ok (.iconst 1, 1) := by decide +kernel
theorem dX5_skipBlanks_36 : decode cX5_skipBlanks 36 = .ok (.iadd, 1) := by decide +kernel
theorem dX5_skipBlanks_37 : decode cX5_skipBlanks 37 = .ok (.putfield 15, 3) := by decide +kernel
theorem dX5_skipBlanks_40 : decode cX5_skipBlanks 40 = .ok (.goto (-40), 3) := by decide +kernel
theorem dX5_skipBlanks_43 : decode cX5_skipBlanks 43 = .ok (.return_, 1) := by decide +kernel
set_option maxRecDepth 20000 in
theorem ggX5_readSemicolon_X5_skipBlanks : GoodIn wsX5_readSemicolon wsX5_skipBlanks := goodIn_sl _ [(7, 1), (2, 1), (1, 1), (8, 6), (19, 7)] rfl (by decide +kernel)
set_option maxRecDepth 20000 in
theorem gX5_readSemicolon_X5_skipBlanks : GoodIn wsX5_readSemicolon (wsV RX5 38 RX5 yX5_skipBlanks wsX5_skipBlanks) := goodIn_app (goodIn_of _ (by decide +kernel)) ggX5_readSemicolon_X5_skipBlanks
set_option maxRecDepth 20000 in
theorem ggX5_readSemicolon_X6_at : GoodIn wsX5_readSemicolon wsX6_at := goodIn_sl _ [(11, 3), (24, 2)] rfl (by decide +kernel)
set_option maxRecDepth 20000 in
theorem gX5_readSemicolon_X6_at_n41 : GoodIn wsX5_readSemicolon (wsX6_at) := ggX5_readSemicolon_X6_at
set_option maxRecDepth 20000 in
theorem ggX5_readSemicolon_X5_fail : GoodIn wsX5_readSemicolon wsX5_fail := goodIn_sl _ [(17, 7)] rfl (by decide +kernel)
set_option maxRecDepth 20000 in
theorem gX5_readSemicolon_X5_fail : GoodIn wsX5_readSemicolon (wsV RX5 57 RX5 yX5_fail wsX5_fail) := goodIn_app (goodIn_of _ (by decide +kernel)) ggX5_readSemicolon_X5_fail
theorem dX5_readSemicolon_0 : decode cX5_readSemicolon 0 = .ok (.aload_n 0, 1) := by decide +kernel
theorem dX5_readSemicolon_1 : decode cX5_readSemicolon 1 = .ok (.invokevirtual 38, 3) := by decide +kernel
theorem dX5_readSemicolon_4 : decode cX5_readSemicolon 4 = .ok (.aload_n 0, 1) := by decide +kernel
theorem dX5_readSemicolon_5 : decode cX5_readSemicolon 5 = .ok (.getfield 25, 3) := by decide +kernel
theorem dX5_readSemicolon_8 : decode cX5_readSemicolon 8 = .ok (.aload_n 0, 1) := by decide +kernel
theorem dX5_readSemicolon_9 : decode cX5_readSemicolon 9 = .ok (.getfield 15, 3) := by decide +kernel
theorem dX5_readSemicolon_12 : decode cX5_readSemicolon 12 = .ok (.invokevirtual 41, 3) := by decide +kernel
theorem dX5_readSemicolon_15 : decode cX5_readSemicolon 15 = .ok (.istore_n 1, 1) := by decide +kernel
theorem dX5_readSemicolon_16 : decode cX5_readSemicolon 16 = .ok (.iload_n 1, 1) := by decide +kernel
theorem dX5_readSemicolon_17 : decode cX5_readSemicolon 17 = .ok (.bipush 59, 2) := by decide +kernel
theorem dX5_readSemicolon_19 : decode cX5_readSemicolon 19 = .ok (.if_icmp .ne 15, 3) := by decide +kernel
theorem dX5_readSemicolon_22 : decode cX5_readSemicolon 22 = .ok (.aload_n 0, 1) := by decide +kernel
theorem dX5_readSemicolon_23 : decode cX5_readSemicolon 23 = .ok (.dup, 1) := by decide +kernel
theorem dX5_readSemicolon_24 : decode cX5_readSemicolon 24 = .ok (.getfield 15, 3) := by decide +kernel
theorem dX5_readSemicolon_27 : decode cX5_readSemicolon 27 = .ok (.iconst 1, 1) := by decide +kernel
theorem dX5_readSemicolon_28 : decode cX5_readSemicolon 28 = .ok (.iadd, 1) := by decide +kernel
theorem dX5_readSemicolon_29 : decode cX5_readSemicolon 29 = .ok (.putfield 15, 3) := by decide +kernel
theorem dX5_readSemicolon_32 : decode cX5_readSemicolon 32 = .ok (.iconst 1, 1) := by decide +kernel
theorem dX5_readSemicolon_33 : decode cX5_readSemicolon 33 = .ok (.ireturn, 1) := by decide +kernel
theorem dX5_readSemicolon_34 : decode cX5_readSemicolon 34 = .ok (.iload_n 1, 1) := by decide +kernel
theorem dX5_readSemicolon_35 : decode cX5_readSemicolon 35 = .ok (.iconst (-1), 1) := by decide +kernel
theorem dX5_readSemicolon_36 : decode cX5_readSemicolon 36 = .ok (.if_icmp .eq 12, 3) := by decide +kernel
theorem dX5_readSemicolon_39 : decode cX5_readSemicolon 39 = .ok (.aload_n 0, 1) := by decide +kernel
theorem dX5_readSemicolon_40 : decode cX5_readSemicolon 40 = .ok (.aload_n 0, 1) := by decide +kernel
theorem dX5_readSemicolon_41 : decode cX5_readSemicolon 41 = .ok (.getfield 15, 3) := by decide +kernel
theorem dX5_readSemicolon_44 : decode cX5_readSemicolon 44 = .ok (.iconst 0, 1) := by decide +kernel
theorem dX5_readSemicolon_45 : decode cX5_readSemicolon 45 = .ok (.invokevirtual 57, 3) := by decide +kernel
theorem dX5_readSemicolon_48 : decode cX5_readSemicolon 48 = .ok (.iconst 0, 1) := by decide +kernel
theorem dX5_readSemicolon_49 : decode cX5_readSemicolon 49 = .ok (.ireturn, 1) := by decide +kernel
set_option maxRecDepth 20000 in
theorem ggX5_readClause_X5_skipBlanks : GoodIn wsX5_readClause wsX5_skipBlanks := goodIn_sl _ [(9, 1), (1, 1), (10, 7), (95, 7)] rfl (by decide +kernel)
set_option maxRecDepth 20000 in
theorem gX5_readClause_X5_skipBlanks : GoodIn wsX5_readClause (wsV RX5 38 RX5 yX5_skipBlanks wsX5_skipBlanks) := goodIn_app (goodIn_of _ (by decide +kernel)) ggX5_readClause_X5_skipBlanks
set_option maxRecDepth 20000 in
theorem ggX5_readClause_X5_readWord : GoodIn wsX5_readClause wsX5_readWord := goodIn_sl _ [(20, 1), (1, 1), (10, 7), (21, 2), (8, 1), (23, 57), (95, 7)] rfl (by decide +kernel)
set_option maxRecDepth 20000 in
theorem gX5_readClause_X5_readWord : GoodIn wsX5_readClause (wsV RX5 61 RX5 yX5_readWord wsX5_readWord) := goodIn_app (goodIn_of _ (by decide +kernel)) ggX5_readClause_X5_readWord
set_option maxRecDepth 20000 in
theorem ggX5_readClause_X5_fail : GoodIn wsX5_readClause wsX5_fail := goodIn_sl _ [(83, 1), (2, 1), (95, 5)] rfl (by decide +kernel)
set_option maxRecDepth 20000 in
theorem gX5_readClause_X5_fail : GoodIn wsX5_readClause (wsV RX5 57 RX5 yX5_fail wsX5_fail) := goodIn_app (goodIn_of _ (by decide +kernel)) ggX5_readClause_X5_fail
set_option maxRecDepth 20000 in
theorem ggX5_readClause_X5_readNumber : GoodIn wsX5_readClause wsX5_readNumber := goodIn_sl _ [(87, 1), (1, 1), (10, 1), (88, 4), (5, 5), (11, 6), (92, 3), (80, 4), (2, 1), (95, 7)] rfl (by decide +kernel)
set_option maxRecDepth 20000 in
theorem gX5_readClause_X5_readNumber : GoodIn wsX5_readClause (wsV RX5 65 RX5 yX5_readNumber wsX5_readNumber) := goodIn_app (goodIn_of _ (by decide +kernel)) ggX5_readClause_X5_readNumber
theorem dX5_readClause_0 : decode cX5_readClause 0 = .ok (.aload_n 0, 1) := by decide +kernel
theorem dX5_readClause_1 : decode cX5_readClause 1 = .ok (.invokevirtual 38, 3) := by decide +kernel
theorem dX5_readClause_4 : decode cX5_readClause 4 = .ok (.aload_n 0, 1) := by decide +kernel
theorem dX5_readClause_5 : decode cX5_readClause 5 = .ok (.getfield 15, 3) := by decide +kernel
theorem dX5_readClause_8 : decode cX5_readClause 8 = .ok (.istore_n 1, 1) := by decide +kernel
theorem dX5_readClause_9 : decode cX5_readClause 9 = .ok (.aload_n 0, 1) := by decide +kernel
theorem dX5_readClause_10 : decode cX5_readClause 10 = .ok (.invokevirtual 61, 3) := by decide +kernel
theorem dX5_readClause_13 : decode cX5_readClause 13 = .ok (.istore_n 2, 1) := by decide +kernel
theorem dX5_readClause_14 : decode cX5_readClause 14 = .ok (.iload_n 2, 1) := by decide +kernel
theorem dX5_readClause_15 : decode cX5_readClause 15 = .ok (.istore_n 3, 1) := by decide +kernel
theorem dX5_readClause_16 : decode cX5_readClause 16 = .ok (.iload_n 2, 1) := by decide +kernel
theorem dX5_readClause_17 : decode cX5_readClause 17 = .ok (.iconst (-1), 1) := by decide +kernel
theorem dX5_readClause_18 : decode cX5_readClause 18 = .ok (.if_icmp .ne 10, 3) := by decide +kernel
theorem dX5_readClause_21 : decode cX5_readClause 21 = .ok (.aload_n 0, 1) := by decide +kernel
theorem dX5_readClause_22 : decode cX5_readClause 22 = .ok (.iload_n 1, 1) := by decide +kernel
theorem dX5_readClause_23 : decode cX5_readClause 23 = .ok (.iconst 0, 1) := by decide +kernel
theorem dX5_readClause_24 : decode cX5_readClause 24 = .ok (.invokevirtual 57, 3) := by decide +kernel
theorem dX5_readClause_27 : decode cX5_readClause 27 = .ok (.return_, 1) := by decide +kernel
theorem dX5_readClause_28 : decode cX5_readClause 28 = .ok (.iload_n 2, 1) := by decide +kernel
theorem dX5_readClause_29 : decode cX5_readClause 29 = .ok (.bipush 6, 2) := by decide +kernel
theorem dX5_readClause_31 : decode cX5_readClause 31 = .ok (.if_icmp .ne 22, 3) := by decide +kernel
theorem dX5_readClause_34 : decode cX5_readClause 34 = .ok (.aload_n 0, 1) := by decide +kernel
theorem dX5_readClause_35 : decode cX5_readClause 35 = .ok (.invokevirtual 38, 3) := by decide +kernel
theorem dX5_readClause_38 : decode cX5_readClause 38 = .ok (.aload_n 0, 1) := by decide +kernel
theorem dX5_readClause_39 : decode cX5_readClause 39 = .ok (.getfield 15, 3) := by decide +kernel
theorem dX5_readClause_42 : decode cX5_readClause 42 = .ok (.istore_n 1, 1) := by decide +kernel
theorem dX5_readClause_43 : decode cX5_readClause 43 = .ok (.bipush 6, 2) := by decide +kernel
theorem dX5_readClause_45 : decode cX5_readClause 45 = .ok (.aload_n 0, 1) := by decide +kernel
theorem dX5_readClause_46 : decode cX5_readClause 46 = .ok (.bipush 6, 2) := by decide +kernel
theorem dX5_readClause_48 : decode cX5_readClause 48 = .ok (.invokevirtual 65, 3) := by decide +kernel
theorem dX5_readClause_51 : decode cX5_readClause 51 = .ok (.iadd, 1) := by decide +kernel
theorem dX5_readClause_52 : decode cX5_readClause 52 = .ok (.istore_n 3, 1) := by decide +kernel
theorem dX5_readClause_53 : decode cX5_readClause 53 = .ok (.aload_n 0, 1) := by decide +kernel
theorem dX5_readClause_54 : decode cX5_readClause 54 = .ok (.getfield 22, 3) := by decide +kernel
theorem dX5_readClause_57 : decode cX5_readClause 57 = .ok (.ifCond .ne 20, 3) := by decide +kernel
theorem dX5_readClause_60 : decode cX5_readClause 60 = .ok (.aload_n 0, 1) := by decide +kernel
theorem dX5_readClause_61 : decode cX5_readClause 61 = .ok (.getfield 19, 3) := by decide +kernel
theorem dX5_readClause_64 : decode cX5_readClause 64 = .ok (.iconst 1, 1) := by decide +kernel
theorem dX5_readClause_65 : decode cX5_readClause 65 = .ok (.iload_n 3, 1) := by decide +kernel
theorem dX5_readClause_66 : decode cX5_readClause 66 = .ok (.ishl, 1) := by decide +kernel
theorem dX5_readClause_67 : decode cX5_readClause 67 = .ok (.iand, 1) := by decide +kernel
theorem dX5_readClause_68 : decode cX5_readClause 68 = .ok (.ifCond .eq 9, 3) := by decide +kernel
theorem dX5_readClause_71 : decode cX5_readClause 71 = .ok (.aload_n 0, 1) := by decide +kernel
theorem dX5_readClause_72 : decode cX5_readClause 72 = .ok (.iload_n 1, 1) := by decide +kernel
theorem dX5_readClause_73 : decode cX5_readClause 73 = .ok (.iconst 2, 1) := by decide +kernel
theorem dX5_readClause_74 : decode cX5_readClause 74 = .ok (.invokevirtual 57, 3) := by decide +kernel
theorem dX5_readClause_77 : decode cX5_readClause 77 = .ok (.aload_n 0, 1) := by decide +kernel
theorem dX5_readClause_78 : decode cX5_readClause 78 = .ok (.getfield 22, 3) := by decide +kernel
theorem dX5_readClause_81 : decode cX5_readClause 81 = .ok (.ifCond .ne 30, 3) := by decide +kernel
theorem dX5_readClause_84 : decode cX5_readClause 84 = .ok (.aload_n 0, 1) := by decide +kernel
theorem dX5_readClause_85 : decode cX5_readClause 85 = .ok (.dup, 1) := by decide +kernel
theorem dX5_readClause_86 : decode cX5_readClause 86 = .ok (.getfield 19, 3) := by decide +kernel
theorem dX5_readClause_89 : decode cX5_readClause 89 = .ok (.iconst 1, 1) := by decide +kernel
theorem dX5_readClause_90 : decode cX5_readClause 90 = .ok (.iload_n 3, 1) := by decide +kernel
theorem dX5_readClause_91 : decode cX5_readClause 91 = .ok (.ishl, 1) := by decide +kernel
theorem dX5_readClause_92 : decode cX5_readClause 92 = .ok (.ior, 1) := by decide +kernel
theorem dX5_readClause_93 : decode cX5_readClause 93 = .ok (.putfield 19, 3) := by decide +kernel
theorem dX5_readClause_96 : decode cX5_readClause 96 = .ok (.aload_n 0, 1) := by decide +kernel
theorem dX5_readClause_97 : decode cX5_readClause 97 = .ok (.getfield 9, 3) := by decide +kernel
theorem dX5_readClause_100 : decode cX5_readClause 100 = .ok (.iload_n 3, 1) := by decide +kernel
theorem dX5_readClause_101 : decode cX5_readClause 101 = .ok (.aload_n 0, 1) := by decide +kernel
theorem dX5_readClause_102 : decode cX5_readClause 102 = .ok (.getstatic 68, 3) := by decide +kernel
theorem dX5_readClause_105 : decode cX5_readClause 105 = .ok (.iload_n 3, 1) := by decide +kernel
theorem dX5_readClause_106 : decode cX5_readClause 106 = .ok (.iaload, 1) := by decide +kernel
theorem dX5_readClause_107 : decode cX5_readClause 107 = .ok (.invokevirtual 65, 3) := by decide +kernel
theorem dX5_readClause_110 : decode cX5_readClause 110 = .ok (.iastore, 1) := by decide +kernel
theorem dX5_readClause_111 : decode cX5_readClause 111 = .ok (.return_, 1) := by decide +kernel
set_option maxRecDepth 20000 in
theorem ggX5_readWord_X6_at : GoodIn wsX5_readWord wsX6_at := goodIn_sl _ [(6, 3), (74, 2)] rfl (by decide +kernel)
set_option maxRecDepth 20000 in
theorem gX5_readWord_X6_at_n41 : GoodIn wsX5_readWord (wsX6_at) := ggX5_readWord_X6_at
set_option maxRecDepth 20000 in
theorem ggX5_readWord_X5_isLetter : GoodIn wsX5_readWord wsX5_isLetter := goodIn_sl _ [(12, 1)] rfl (by decide +kernel)
set_option maxRecDepth 20000 in
theorem gX5_readWord_X5_isLetter : GoodIn wsX5_readWord (va_wsS RX5 71 yX5_isLetter wsX5_isLetter) := goodIn_app (goodIn_of _ (by decide +kernel)) ggX5_readWord_X5_isLetter
set_option maxRecDepth 20000 in
theorem ggX5_readWord_X5_spelling : GoodIn wsX5_readWord wsX5_spelling := goodIn_sl _ [(15, 1)] rfl (by decide +kernel)
set_option maxRecDepth 20000 in
theorem gX5_readWord_X5_spelling : GoodIn wsX5_readWord (va_wsS RX5 75 yX5_spelling wsX5_spelling) := goodIn_app (goodIn_of _ (by decide +kernel)) ggX5_readWord_X5_spelling
set_option maxRecDepth 20000 in
theorem ggX5_readWord_X5_stands : GoodIn wsX5_readWord wsX5_stands := goodIn_sl _ [(19, 1), (1, 2), (20, 12), (3, 6), (32, 44)] rfl (by decide +kernel)
set_option maxRecDepth 20000 in
theorem gX5_readWord_X5_stands : GoodIn wsX5_readWord (wsV RX5 79 RX5 yX5_stands wsX5_stands) := goodIn_app (goodIn_of _ (by decide +kernel)) ggX5_readWord_X5_stands
theorem dX5_readWord_0 : decode cX5_readWord 0 = .ok (.aload_n 0, 1) := by decide +kernel
theorem dX5_readWord_1 : decode cX5_readWord 1 = .ok (.getfield 15, 3) := by decide +kernel
theorem dX5_readWord_4 : decode cX5_readWord 4 = .ok (.istore_n 1, 1) := by decide +kernel
theorem dX5_readWord_5 : decode cX5_readWord 5 = .ok (.aload_n 0, 1) := by decide +kernel
theorem dX5_readWord_6 : decode cX5_readWord 6 = .ok (.getfield 15, 3) := by decide +kernel
theorem dX5_readWord_9 : decode cX5_readWord 9 = .ok (.aload_n 0, 1) := by decide +kernel
theorem dX5_readWord_10 : decode cX5_readWord 10 = .ok (.getfield 25, 3) := by decide +kernel
theorem dX5_readWord_13 : decode cX5_readWord 13 = .ok (.getfield 54, 3) := by decide +kernel
theorem dX5_readWord_16 : decode cX5_readWord 16 = .ok (.if_icmp .ge 33, 3) := by decide +kernel
theorem dX5_readWord_19 : decode cX5_readWord 19 = .ok (.aload_n 0, 1) := by decide +kernel
theorem dX5_readWord_20 : decode cX5_readWord 20 = .ok (.getfield 25, 3) := by decide +kernel
theorem dX5_readWord_23 : decode cX5_readWord 23 = .ok (.aload_n 0, 1) := by decide +kernel
theorem dX5_readWord_24 : decode cX5_readWord 24 = .ok (.getfield 15, 3) := by decide +kernel
theorem dX5_readWord_27 : decode cX5_readWord 27 = .ok (.invokevirtual 41, 3) := by decide +kernel
theorem dX5_readWord_30 : decode cX5_readWord 30 = .ok (.invokestatic 71, 3) := by decide +kernel
theorem dX5_readWord_33 : decode cX5_readWord 33 = .ok (.ifCond .eq 16, 3) := by decide +kernel
theorem dX5_readWord_36 : decode cX5_readWord 36 = .ok (.aload_n 0, 1) := by decide +kernel
theorem dX5_readWord_37 : decode cX5_readWord 37 = .ok (.dup, 1) := by decide +kernel
theorem dX5_readWord_38 : decode cX5_readWord 38 = .ok (.getfield 15, 3) := by decide +kernel
theorem dX5_readWord_41 : decode cX5_readWord 41 = .ok (.iconst 1, 1) := by decide +kernel
theorem dX5_readWord_42 : decode cX5_readWord 42 = .ok (.iadd, 1) := by decide +kernel
theorem dX5_readWord_43 : decode cX5_readWord 43 = .ok (.putfield 15, 3) := by decide +kernel
theorem dX5_readWord_46 : decode cX5_readWord 46 = .ok (.goto (-41), 3) := by decide +kernel
theorem dX5_readWord_49 : decode cX5_readWord 49 = .ok (.iconst 0, 1) := by decide +kernel
theorem dX5_readWord_50 : decode cX5_readWord 50 = .ok (.istore_n 2, 1) := by decide +kernel
theorem dX5_readWord_51 : decode cX5_readWord 51 = .ok (.iload_n 2, 1) := by decide +kernel
theorem dX5_readWord_52 : decode cX5_readWord 52 = .ok (.bipush 7, 2) := by decide +kernel
theorem dX5_readWord_54 : decode cX5_readWord 54 = .ok (.if_icmp .ge 23, 3) := by decide +kernel
theorem dX5_readWord_57 : decode cX5_readWord 57 = .ok (.aload_n 0, 1) := by decide +kernel
theorem dX5_readWord_58 : decode cX5_readWord 58 = .ok (.iload_n 2, 1) := by decide +kernel
theorem dX5_readWord_59 : decode cX5_readWord 59 = .ok (.invokestatic 75, 3) := by decide +kernel
theorem dX5_readWord_62 : decode cX5_readWord 62 = .ok (.iload_n 1, 1) := by decide +kernel
theorem dX5_readWord_63 : decode cX5_readWord 63 = .ok (.invokevirtual 79, 3) := by decide +kernel
theorem dX5_readWord_66 : decode cX5_readWord 66 = .ok (.ifCond .eq 5, 3) := by decide +kernel
theorem dX5_readWord_69 : decode cX5_readWord 69 = .ok (.iload_n 2, 1) := by decide +kernel
theorem dX5_readWord_70 : decode cX5_readWord 70 = .ok (.ireturn, 1) := by decide +kernel
theorem dX5_readWord_71 : decode cX5_readWord 71 = .ok (.iinc 2 1, 3) := by decide +kernel
theorem dX5_readWord_74 : decode cX5_readWord 74 = .ok (.goto (-23), 3) := by decide +kernel
theorem dX5_readWord_77 : decode cX5_readWord 77 = .ok (.iconst (-1), 1) := by decide +kernel
theorem dX5_readWord_78 : decode cX5_readWord 78 = .ok (.ireturn, 1) := by decide +kernel
set_option maxRecDepth 20000 in
theorem ggX5_stands_J0_length_8abf5 : GoodIn wsX5_stands wsJ0_length_8abf5 := goodIn_sl _ [(7, 5), (6, 1), (12, 3)] rfl (by decide +kernel)
set_option maxRecDepth 20000 in
theorem gX5_stands_J0_length_8abf5 : GoodIn wsX5_stands (wsV RX5 83 RJ0 yJ0_length_8abf5 wsJ0_length_8abf5) := goodIn_app (goodIn_of _ (by decide +kernel)) ggX5_stands_J0_length_8abf5
set_option maxRecDepth 20000 in
theorem ggX5_stands_X6_at : GoodIn wsX5_stands wsX6_at := goodIn_sl _ [(18, 3), (63, 2)] rfl (by decide +kernel)
set_option maxRecDepth 20000 in
theorem gX5_stands_X6_at_n41 : GoodIn wsX5_stands (wsX6_at) := ggX5_stands_X6_at
set_option maxRecDepth 20000 in
theorem ggX5_stands_J0_charAt_5068e : GoodIn wsX5_stands wsJ0_charAt_5068e := goodIn_sl _ [(24, 1), (8, 1), (25, 3), (6, 1), (28, 1), (13, 2), (29, 29)] rfl (by decide +kernel)
set_option maxRecDepth 20000 in
theorem gX5_stands_J0_charAt_5068e : GoodIn wsX5_stands (wsV RX5 87 RJ0 yJ0_charAt_5068e wsJ0_charAt_5068e) := goodIn_app (goodIn_of _ (by decide +kernel)) ggX5_stands_J0_charAt_5068e
theorem dX5_stands_0 : decode cX5_stands 0 = .ok (.aload_n 1, 1) := by decide +kernel
theorem dX5_stands_1 : decode cX5_stands 1 = .ok (.invokevirtual 83, 3) := by decide +kernel
theorem dX5_stands_4 : decode cX5_stands 4 = .ok (.aload_n 0, 1) := by decide +kernel
theorem dX5_stands_5 : decode cX5_stands 5 = .ok (.getfield 15, 3) := by decide +kernel
theorem dX5_stands_8 : decode cX5_stands 8 = .ok (.iload_n 2, 1) := by decide +kernel
theorem dX5_stands_9 : decode cX5_stands 9 = .ok (.isub, 1) := by decide +kernel
theorem dX5_stands_10 : decode cX5_stands 10 = .ok (.if_icmp .eq 5, 3) := by decide +kernel
theorem dX5_stands_13 : decode cX5_stands 13 = .ok (.iconst 0, 1) := by decide +kernel
theorem dX5_stands_14 : decode cX5_stands 14 = .ok (.ireturn, 1) := by decide +kernel
theorem dX5_stands_15 : decode cX5_stands 15 = .ok (.iconst 0, 1) := by decide +kernel
theorem dX5_stands_16 : decode cX5_stands 16 = .ok (.istore_n 3, 1) := by decide +kernel
theorem dX5_stands_17 : decode cX5_stands 17 = .ok (.iload_n 3, 1) := by decide +kernel
theorem dX5_stands_18 : decode cX5_stands 18 = .ok (.aload_n 1, 1) := by decide +kernel
theorem dX5_stands_19 : decode cX5_stands 19 = .ok (.invokevirtual 83, 3) := by decide +kernel
theorem dX5_stands_22 : decode cX5_stands 22 = .ok (.if_icmp .ge 29, 3) := by decide +kernel
theorem dX5_stands_25 : decode cX5_stands 25 = .ok (.aload_n 0, 1) := by decide +kernel
theorem dX5_stands_26 : decode cX5_stands 26 = .ok (.getfield 25, 3) := by decide +kernel
theorem dX5_stands_29 : decode cX5_stands 29 = .ok (.iload_n 2, 1) := by decide +kernel
theorem dX5_stands_30 : decode cX5_stands 30 = .ok (.iload_n 3, 1) := by decide +kernel
theorem dX5_stands_31 : decode cX5_stands 31 = .ok (.iadd, 1) := by decide +kernel
theorem dX5_stands_32 : decode cX5_stands 32 = .ok (.invokevirtual 41, 3) := by decide +kernel
theorem dX5_stands_35 : decode cX5_stands 35 = .ok (.aload_n 1, 1) := by decide +kernel
theorem dX5_stands_36 : decode cX5_stands 36 = .ok (.iload_n 3, 1) := by decide +kernel
theorem dX5_stands_37 : decode cX5_stands 37 = .ok (.invokevirtual 87, 3) := by decide +kernel
theorem dX5_stands_40 : decode cX5_stands 40 = .ok (.if_icmp .eq 5, 3) := by decide +kernel
theorem dX5_stands_43 : decode cX5_stands 43 = .ok (.iconst 0, 1) := by decide +kernel
theorem dX5_stands_44 : decode cX5_stands 44 = .ok (.ireturn, 1) := by decide +kernel
theorem dX5_stands_45 : decode cX5_stands 45 = .ok (.iinc 3 1, 3) := by decide +kernel
theorem dX5_stands_48 : decode cX5_stands 48 = .ok (.goto (-31), 3) := by decide +kernel
theorem dX5_stands_51 : decode cX5_stands 51 = .ok (.iconst 1, 1) := by decide +kernel
theorem dX5_stands_52 : decode cX5_stands 52 = .ok (.ireturn, 1) := by decide +kernel
set_option maxRecDepth 20000 in
theorem ggX5_readNumber_X5_skipBlanks : GoodIn wsX5_readNumber wsX5_skipBlanks := goodIn_sl _ [(11, 1), (1, 2), (12, 6), (26, 7)] rfl (by decide +kernel)
set_option maxRecDepth 20000 in
theorem gX5_readNumber_X5_skipBlanks : GoodIn wsX5_readNumber (wsV RX5 38 RX5 yX5_skipBlanks wsX5_skipBlanks) := goodIn_app (goodIn_of _ (by decide +kernel)) ggX5_readNumber_X5_skipBlanks
set_option maxRecDepth 20000 in
theorem ggX5_readNumber_X6_at : GoodIn wsX5_readNumber wsX6_at := goodIn_sl _ [(15, 3), (31, 2)] rfl (by decide +kernel)
set_option maxRecDepth 20000 in
theorem gX5_readNumber_X6_at_n41 : GoodIn wsX5_readNumber (wsX6_at) := ggX5_readNumber_X6_at
set_option maxRecDepth 20000 in
theorem ggX5_readNumber_X5_isDigit : GoodIn wsX5_readNumber wsX5_isDigit := goodIn_sl _ [(20, 1)] rfl (by decide +kernel)
set_option maxRecDepth 20000 in
theorem gX5_readNumber_X5_isDigit : GoodIn wsX5_readNumber (va_wsS RX5 91 yX5_isDigit wsX5_isDigit) := goodIn_app (goodIn_of _ (by decide +kernel)) ggX5_readNumber_X5_isDigit
set_option maxRecDepth 20000 in
theorem ggX5_readNumber_X5_fail : GoodIn wsX5_readNumber wsX5_fail := goodIn_sl _ [(24, 7)] rfl (by decide +kernel)
set_option maxRecDepth 20000 in
theorem gX5_readNumber_X5_fail : GoodIn wsX5_readNumber (wsV RX5 57 RX5 yX5_fail wsX5_fail) := goodIn_app (goodIn_of _ (by decide +kernel)) ggX5_readNumber_X5_fail
theorem dX5_readNumber_0 : decode cX5_readNumber 0 = .ok (.aload_n 0, 1) := by decide +kernel
theorem dX5_readNumber_1 : decode cX5_readNumber 1 = .ok (.invokevirtual 38, 3) := by decide +kernel
theorem dX5_readNumber_4 : decode cX5_readNumber 4 = .ok (.aload_n 0, 1) := by decide +kernel
theorem dX5_readNumber_5 : decode cX5_readNumber 5 = .ok (.getfield 15, 3) := by decide +kernel
theorem dX5_readNumber_8 : decode cX5_readNumber 8 = .ok (.istore_n 2, 1) := by decide +kernel
theorem dX5_readNumber_9 : decode cX5_readNumber 9 = .ok (.iconst 0, 1) := by decide +kernel
theorem dX5_readNumber_10 : decode cX5_readNumber 10 = .ok (.istore_n 3, 1) := by decide +kernel
theorem dX5_readNumber_11 : decode cX5_readNumber 11 = .ok (.aload_n 0, 1) := by decide +kernel
theorem dX5_readNumber_12 : decode cX5_readNumber 12 = .ok (.getfield 15, 3) := by decide +kernel
theorem dX5_readNumber_15 : decode cX5_readNumber 15 = .ok (.aload_n 0, 1) := by decide +kernel
theorem dX5_readNumber_16 : decode cX5_readNumber 16 = .ok (.getfield 25, 3) := by decide +kernel
theorem dX5_readNumber_19 : decode cX5_readNumber 19 = .ok (.getfield 54, 3) := by decide +kernel
theorem dX5_readNumber_22 : decode cX5_readNumber 22 = .ok (.if_icmp .ge 59, 3) := by decide +kernel
theorem dX5_readNumber_25 : decode cX5_readNumber 25 = .ok (.aload_n 0, 1) := by decide +kernel
theorem dX5_readNumber_26 : decode cX5_readNumber 26 = .ok (.getfield 25, 3) := by decide +kernel
theorem dX5_readNumber_29 : decode cX5_readNumber 29 = .ok (.aload_n 0, 1) := by decide +kernel
theorem dX5_readNumber_30 : decode cX5_readNumber 30 = .ok (.getfield 15, 3) := by decide +kernel
theorem dX5_readNumber_33 : decode cX5_readNumber 33 = .ok (.invokevirtual 41, 3) := by decide +kernel
theorem dX5_readNumber_36 : decode cX5_readNumber 36 = .ok (.invokestatic 91, 3) := by decide +kernel
theorem dX5_readNumber_39 : decode cX5_readNumber 39 = .ok (.ifCond .eq 42, 3) := by decide +kernel
theorem dX5_readNumber_42 : decode cX5_readNumber 42 = .ok (.iload_n 3, 1) := by decide +kernel
theorem dX5_readNumber_43 : decode cX5_readNumber 43 = .ok (.bipush 10, 2) := by decide +kernel
theorem dX5_readNumber_45 : decode cX5_readNumber 45 = .ok (.imul, 1) := by decide +kernel
theorem dX5_readNumber_46 : decode cX5_readNumber 46 = .ok (.aload_n 0, 1) := by decide +kernel
theorem dX5_readNumber_47 : decode cX5_readNumber 47 = .ok (.getfield 25, 3) := by decide +kernel
theorem dX5_readNumber_50 : decode cX5_readNumber 50 = .ok (.aload_n 0, 1) := by decide +kernel
theorem dX5_readNumber_51 : decode cX5_readNumber 51 = .ok (.getfield 15, 3) := by decide +kernel
theorem dX5_readNumber_54 : decode cX5_readNumber 54 = .ok (.invokevirtual 41, 3) := by decide +kernel
theorem dX5_readNumber_57 : decode cX5_readNumber 57 = .ok (.iadd, 1) := by decide +kernel
theorem dX5_readNumber_58 : decode cX5_readNumber 58 = .ok (.bipush 48, 2) := by decide +kernel
theorem dX5_readNumber_60 : decode cX5_readNumber 60 = .ok (.isub, 1) := by decide +kernel
theorem dX5_readNumber_61 : decode cX5_readNumber 61 = .ok (.sipush 1000, 3) := by decide +kernel
theorem dX5_readNumber_64 : decode cX5_readNumber 64 = .ok (.invokestatic 94, 3) := by decide +kernel
theorem dX5_readNumber_67 : decode cX5_readNumber 67 = .ok (.istore_n 3, 1) := by decide +kernel
theorem dX5_readNumber_68 : decode cX5_readNumber 68 = .ok (.aload_n 0, 1) := by decide +kernel
theorem dX5_readNumber_69 : decode cX5_readNumber 69 = .ok (.dup, 1) := by decide +kernel
theorem dX5_readNumber_70 : decode cX5_readNumber 70 = .ok (.getfield 15, 3) := by decide +kernel
theorem dX5_readNumber_73 : decode cX5_readNumber 73 = .ok (.iconst 1, 1) := by decide +kernel
theorem dX5_readNumber_74 : decode cX5_readNumber 74 = .ok (.iadd, 1) := by decide +kernel
theorem dX5_readNumber_75 : decode cX5_readNumber 75 = .ok (.putfield 15, 3) := by decide +kernel
theorem dX5_readNumber_78 : decode cX5_readNumber 78 = .ok (.goto (-67), 3) := by decide +kernel
theorem dX5_readNumber_81 : decode cX5_readNumber 81 = .ok (.aload_n 0, 1) := by decide +kernel
theorem dX5_readNumber_82 : decode cX5_readNumber 82 = .ok (.getfield 15, 3) := by decide +kernel
theorem dX5_readNumber_85 : decode cX5_readNumber 85 = .ok (.iload_n 2, 1) := by decide +kernel
theorem dX5_readNumber_86 : decode cX5_readNumber 86 = .ok (.if_icmp .ne 11, 3) := by decide +kernel
theorem dX5_readNumber_89 : decode cX5_readNumber 89 = .ok (.aload_n 0, 1) := by decide +kernel
theorem dX5_readNumber_90 : decode cX5_readNumber 90 = .ok (.iload_n 2, 1) := by decide +kernel
theorem dX5_readNumber_91 : decode cX5_readNumber 91 = .ok (.iconst 0, 1) := by decide +kernel
theorem dX5_readNumber_92 : decode cX5_readNumber 92 = .ok (.invokevirtual 57, 3) := by decide +kernel
theorem dX5_readNumber_95 : decode cX5_readNumber 95 = .ok (.iconst 0, 1) := by decide +kernel
theorem dX5_readNumber_96 : decode cX5_readNumber 96 = .ok (.ireturn, 1) := by decide +kernel
theorem dX5_readNumber_97 : decode cX5_readNumber 97 = .ok (.aload_n 0, 1) := by decide +kernel
theorem dX5_readNumber_98 : decode cX5_readNumber 98 = .ok (.getfield 15, 3) := by decide +kernel
theorem dX5_readNumber_101 : decode cX5_readNumber 101 = .ok (.iload_n 2, 1) := by decide +kernel
theorem dX5_readNumber_102 : decode cX5_readNumber 102 = .ok (.isub, 1) := by decide +kernel
theorem dX5_readNumber_103 : decode cX5_readNumber 103 = .ok (.iconst 3, 1) := by decide +kernel
theorem dX5_readNumber_104 : decode cX5_readNumber 104 = .ok (.if_icmp .gt 8, 3) := by decide +kernel
theorem dX5_readNumber_107 : decode cX5_readNumber 107 = .ok (.iload_n 3, 1) := by decide +kernel
theorem dX5_readNumber_108 : decode cX5_readNumber 108 = .ok (.iload_n 1, 1) := by decide +kernel
theorem dX5_readNumber_109 : decode cX5_readNumber 109 = .ok (.if_icmp .le 11, 3) := by decide +kernel
theorem dX5_readNumber_112 : decode cX5_readNumber 112 = .ok (.aload_n 0, 1) := by decide +kernel
theorem dX5_readNumber_113 : decode cX5_readNumber 113 = .ok (.iload_n 2, 1) := by decide +kernel
theorem dX5_readNumber_114 : decode cX5_readNumber 114 = .ok (.iconst 1, 1) := by decide +kernel
theorem dX5_readNumber_115 : decode cX5_readNumber 115 = .ok (.invokevirtual 57, 3) := by decide +kernel
theorem dX5_readNumber_118 : decode cX5_readNumber 118 = .ok (.iconst 0, 1) := by decide +kernel
theorem dX5_readNumber_119 : decode cX5_readNumber 119 = .ok (.ireturn, 1) := by decide +kernel
theorem dX5_readNumber_120 : decode cX5_readNumber 120 = .ok (.iload_n 3, 1) := by decide +kernel
theorem dX5_readNumber_121 : decode cX5_readNumber 121 = .ok (.ireturn, 1) := by decide +kernel
theorem dX5_isLetter_0 : decode cX5_isLetter 0 = .ok (.iload_n 0, 1) := by decide +kernel
theorem dX5_isLetter_1 : decode cX5_isLetter 1 = .ok (.bipush 97, 2) := by decide +kernel
theorem dX5_isLetter_3 : decode cX5_isLetter 3 = .ok (.if_icmp .lt 13, 3) := by decide +kernel
theorem dX5_isLetter_6 : decode cX5_isLetter 6 = .ok (.iload_n 0, 1) := by decide +kernel
theorem dX5_isLetter_7 : decode cX5_isLetter 7 = .ok (.bipush 122, 2) := by decide +kernel
theorem dX5_isLetter_9 : decode cX5_isLetter 9 = .ok (.if_icmp .gt 7, 3) := by decide +kernel
theorem dX5_isLetter_12 : decode cX5_isLetter 12 = .ok (.iconst 1, 1) := by decide +kernel
theorem dX5_isLetter_13 : decode cX5_isLetter 13 = .ok (.goto 4, 3) := by decide +kernel
theorem dX5_isLetter_16 : decode cX5_isLetter 16 = .ok (.iconst 0, 1) := by decide +kernel
theorem dX5_isLetter_17 : decode cX5_isLetter 17 = .ok (.ireturn, 1) := by decide +kernel
theorem dX5_isDigit_0 : decode cX5_isDigit 0 = .ok (.iload_n 0, 1) := by decide +kernel
theorem dX5_isDigit_1 : decode cX5_isDigit 1 = .ok (.bipush 48, 2) := by decide +kernel
theorem dX5_isDigit_3 : decode cX5_isDigit 3 = .ok (.if_icmp .lt 13, 3) := by decide +kernel
theorem dX5_isDigit_6 : decode cX5_isDigit 6 = .ok (.iload_n 0, 1) := by decide +kernel
theorem dX5_isDigit_7 : decode cX5_isDigit 7 = .ok (.bipush 57, 2) := by decide +kernel
theorem dX5_isDigit_9 : decode cX5_isDigit 9 = .ok (.if_icmp .gt 7, 3) := by decide +kernel
theorem dX5_isDigit_12 : decode cX5_isDigit 12 = .ok (.iconst 1, 1) := by decide +kernel
theorem dX5_isDigit_13 : decode cX5_isDigit 13 = .ok (.goto 4, 3) := by decide +kernel
theorem dX5_isDigit_16 : decode cX5_isDigit 16 = .ok (.iconst 0, 1) := by decide +kernel
theorem dX5_isDigit_17 : decode cX5_isDigit 17 = .ok (.ireturn, 1) := by decide +kernel
theorem dX5_spelling_0 : decode cX5_spelling 0 = .ok (.iload_n 0, 1) := by decide +kernel
theorem dX5_spelling_1 : decode cX5_spelling 1 = .ok (.tableswitch 57 0 5 #[39, 42, 45, 48, 51, 54], 39) := by decide +kernel
theorem dX5_spelling_40 : decode cX5_spelling 40 = .ok (.ldc 100, 2) := by decide +kernel
theorem dX5_spelling_42 : decode cX5_spelling 42 = .ok (.areturn, 1) := by decide +kernel
theorem dX5_spelling_43 : decode cX5_spelling 43 = .ok (.ldc 102, 2) := by decide +kernel
theorem dX5_spelling_45 : decode cX5_spelling 45 = .ok (.areturn, 1) := by decide +kernel
theorem dX5_spelling_46 : decode cX5_spelling 46 = .ok (.ldc 104, 2) := by decide +kernel
theorem dX5_spelling_48 : decode cX5_spelling 48 = .ok (.areturn, 1) := by decide +kernel
theorem dX5_spelling_49 : decode cX5_spelling 49 = .ok (.ldc 106, 2) := by decide +kernel
theorem dX5_spelling_51 : decode cX5_spelling 51 = .ok (.areturn, 1) := by decide +kernel
theorem dX5_spelling_52 : decode cX5_spelling 52 = .ok (.ldc 108, 2) := by decide +kernel
theorem dX5_spelling_54 : decode cX5_spelling 54 = .ok (.areturn, 1) := by decide +kernel
theorem dX5_spelling_55 : decode cX5_spelling 55 = .ok (.ldc 110, 2) := by decide +kernel
theorem dX5_spelling_57 : decode cX5_spelling 57 = .ok (.areturn, 1) := by decide +kernel
theorem dX5_spelling_58 : decode cX5_spelling 58 = .ok (.ldc 112, 2) := by decide +kernel
theorem dX5_spelling_60 : decode cX5_spelling 60 = .ok (.areturn, 1) := by decide +kernel
theorem dX6_init_0 : decode cX6_init 0 = .ok (.aload_n 0, 1) := by decide +kernel
theorem dX6_init_1 : decode cX6_init 1 = .ok (.invokespecial 3, 3) := by decide +kernel
theorem dX6_init_4 : decode cX6_init 4 = .ok (.aload_n 0, 1) := by decide +kernel
theorem dX6_init_5 : decode cX6_init 5 = .ok (.iconst 0, 1) := by decide +kernel
theorem dX6_init_6 : decode cX6_init 6 = .ok (.putfield 9, 3) := by decide +kernel
theorem dX6_init_9 : decode cX6_init 9 = .ok (.aload_n 0, 1) := by decide +kernel
theorem dX6_init_10 : decode cX6_init 10 = .ok (.sipush 200, 3) := by decide +kernel
theorem dX6_init_13 : decode cX6_init 13 = .ok (.newarray .byte, 2) := by decide +kernel
theorem dX6_init_15 : decode cX6_init 15 = .ok (.putfield 15, 3) := by decide +kernel
theorem dX6_init_18 : decode cX6_init 18 = .ok (.return_, 1) := by decide +kernel
theorem dX6_hasRoom_0 : decode cX6_hasRoom 0 = .ok (.aload_n 0, 1) := by decide +kernel
theorem dX6_hasRoom_1 : decode cX6_hasRoom 1 = .ok (.getfield 9, 3) := by decide +kernel
theorem dX6_hasRoom_4 : decode cX6_hasRoom 4 = .ok (.iload_n 1, 1) := by decide +kernel
theorem dX6_hasRoom_5 : decode cX6_hasRoom 5 = .ok (.iadd, 1) := by decide +kernel
theorem dX6_hasRoom_6 : decode cX6_hasRoom 6 = .ok (.sipush 200, 3) := by decide +kernel
theorem dX6_hasRoom_9 : decode cX6_hasRoom 9 = .ok (.if_icmp .gt 7, 3) := by decide +kernel
theorem dX6_hasRoom_12 : decode cX6_hasRoom 12 = .ok (.iconst 1, 1) := by decide +kernel
theorem dX6_hasRoom_13 : decode cX6_hasRoom 13 = .ok (.goto 4, 3) := by decide +kernel
theorem dX6_hasRoom_16 : decode cX6_hasRoom 16 = .ok (.iconst 0, 1) := by decide +kernel
theorem dX6_hasRoom_17 : decode cX6_hasRoom 17 = .ok (.ireturn, 1) := by decide +kernel
set_option maxRecDepth 20000 in
theorem ggX6_append_X6_hasRoom : GoodIn wsX6_append wsX6_hasRoom := goodIn_sl _ [(7, 1), (2, 1), (8, 2)] rfl (by decide +kernel)
set_option maxRecDepth 20000 in
theorem gX6_append_X6_hasRoom : GoodIn wsX6_append (wsV RX6 19 RX6 yX6_hasRoom wsX6_hasRoom) := goodIn_app (goodIn_of _ (by decide +kernel)) ggX6_append_X6_hasRoom
theorem dX6_append_0 : decode cX6_append 0 = .ok (.aload_n 0, 1) := by decide +kernel
theorem dX6_append_1 : decode cX6_append 1 = .ok (.iconst 4, 1) := by decide +kernel
theorem dX6_append_2 : decode cX6_append 2 = .ok (.invokevirtual 19, 3) := by decide +kernel
theorem dX6_append_5 : decode cX6_append 5 = .ok (.ifCond .ne 4, 3) := by decide +kernel
theorem dX6_append_8 : decode cX6_append 8 = .ok (.return_, 1) := by decide +kernel
theorem dX6_append_9 : decode cX6_append 9 = .ok (.aload_n 0, 1) := by decide +kernel
theorem dX6_append_10 : decode cX6_append 10 = .ok (.getfield 15, 3) := by decide +kernel
theorem dX6_append_13 : decode cX6_append 13 = .ok (.aload_n 0, 1) := by decide +kernel
theorem dX6_append_14 : decode cX6_append 14 = .ok (.getfield 9, 3) := by decide +kernel
theorem dX6_append_17 : decode cX6_append 17 = .ok (.iload_n 1, 1) := by decide +kernel
theorem dX6_append_18 : decode cX6_append 18 = .ok (.bipush 24, 2) := by decide +kernel
theorem dX6_append_20 : decode cX6_append 20 = .ok (.ishr, 1) := by decide +kernel
theorem dX6_append_21 : decode cX6_append 21 = .ok (.i2b, 1) := by decide +kernel
theorem dX6_append_22 : decode cX6_append 22 = .ok (.bastore, 1) := by decide +kernel
theorem dX6_append_23 : decode cX6_append 23 = .ok (.aload_n 0, 1) := by decide +kernel
theorem dX6_append_24 : decode cX6_append 24 = .ok (.getfield 15, 3) := by decide +kernel
theorem dX6_append_27 : decode cX6_append 27 = .ok (.aload_n 0, 1) := by decide +kernel
theorem dX6_append_28 : decode cX6_append 28 = .ok (.getfield 9, 3) := by decide +kernel
theorem dX6_append_31 : decode cX6_append 31 = .ok (.iconst 1, 1) := by decide +kernel
theorem dX6_append_32 : decode cX6_append 32 = .ok (.iadd, 1) := by decide +kernel
theorem dX6_append_33 : decode cX6_append 33 = .ok (.iload_n 1, 1) := by decide +kernel
theorem dX6_append_34 : decode cX6_append 34 = .ok (.bipush 16, 2) := by decide +kernel
theorem dX6_append_36 : decode cX6_append 36 = .ok (.ishr, 1) := by decide +kernel
theorem dX6_append_37 : decode cX6_append 37 = .ok (.i2b, 1) := by decide +kernel
theorem dX6_append_38 : decode cX6_append 38 = .ok (.bastore, 1) := by decide +kernel
theorem dX6_append_39 : decode cX6_append 39 = .ok (.aload_n 0, 1) := by decide +kernel
theorem dX6_append_40 : decode cX6_append 40 = .ok (.getfield 15, 3) := by decide +kernel
theorem dX6_append_43 : decode cX6_append 43 = .ok (.aload_n 0, 1) := by decide +kernel
theorem dX6_append_44 : decode cX6_append 44 = .ok (.getfield 9, 3) := by decide +kernel
theorem dX6_append_47 : decode cX6_append 47 = .ok (.iconst 2, 1) := by decide +kernel
theorem dX6_append_48 : decode cX6_append 48 = .ok (.iadd, 1) := by decide +kernel
theorem dX6_append_49 : decode cX6_append 49 = .ok (.iload_n 1, 1) := by decide +kernel
theorem dX6_append_50 : decode cX6_append 50 = .ok (.bipush 8, 2) := by decide +kernel
theorem dX6_append_52 : decode cX6_append 52 = .ok (.ishr, 1) := by decide +kernel
theorem dX6_append_53 : decode cX6_append 53 = .ok (.i2b, 1) := by decide +kernel
theorem dX6_append_54 : decode cX6_append 54 = .ok (.bastore, 1) := by decide +kernel
theorem dX6_append_55 : decode cX6_append 55 = .ok (.aload_n 0, 1) := by decide +kernel
theorem dX6_append_56 : decode cX6_append 56 = .ok (.getfield 15, 3) := by decide +kernel
theorem dX6_append_59 : decode cX6_append 59 = .ok (.aload_n 0, 1) := by decide +kernel
theorem dX6_append_60 : decode cX6_append 60 = .ok (.getfield 9, 3) := by decide +kernel
theorem dX6_append_63 : decode cX6_append 63 = .ok (.iconst 3, 1) := by decide +kernel
theorem dX6_append_64 : decode cX6_append 64 = .ok (.iadd, 1) := by decide +kernel
theorem dX6_append_65 : decode cX6_append 65 = .ok (.iload_n 1, 1) := by decide +kernel
theorem dX6_append_66 : decode cX6_append 66 = .ok (.i2b, 1) := by decide +kernel
theorem dX6_append_67 : decode cX6_append 67 = .ok (.bastore, 1) := by decide +kernel
theorem dX6_append_68 : decode cX6_append 68 = .ok (.aload_n 0, 1) := by decide +kernel
theorem dX6_append_69 : decode cX6_append 69 = .ok (.dup, 1) := by decide +kernel
theorem dX6_append_70 : decode cX6_append 70 = .ok (.getfield 9, 3) := by decide +kernel
theorem dX6_append_73 : decode cX6_append 73 = .ok (.iconst 4, 1) := by decide +kernel
theorem dX6_append_74 : decode cX6_append 74 = .ok (.iadd, 1) := by decide +kernel
theorem dX6_append_75 : decode cX6_append 75 = .ok (.putfield 9, 3) := by decide +kernel
theorem dX6_append_78 : decode cX6_append 78 = .ok (.return_, 1) := by decide +kernel
theorem dX6_cutTo_0 : decode cX6_cutTo 0 = .ok (.iload_n 1, 1) := by decide +kernel
theorem dX6_cutTo_1 : decode cX6_cutTo 1 = .ok (.ifCond .lt 11, 3) := by decide +kernel
theorem dX6_cutTo_4 : decode cX6_cutTo 4 = .ok (.iload_n 1, 1) := by decide +kernel
theorem dX6_cutTo_5 : decode cX6_cutTo 5 = .ok (.aload_n 0, 1) := by decide +kernel
theorem dX6_cutTo_6 : decode cX6_cutTo 6 = .ok (.getfield 9, 3) := by decide +kernel
theorem dX6_cutTo_9 : decode cX6_cutTo 9 = .ok (.if_icmp .le 5, 3) := by decide +kernel
theorem dX6_cutTo_12 : decode cX6_cutTo 12 = .ok (.iconst 0, 1) := by decide +kernel
theorem dX6_cutTo_13 : decode cX6_cutTo 13 = .ok (.ireturn, 1) := by decide +kernel
theorem dX6_cutTo_14 : decode cX6_cutTo 14 = .ok (.aload_n 0, 1) := by decide +kernel
theorem dX6_cutTo_15 : decode cX6_cutTo 15 = .ok (.iload_n 1, 1) := by decide +kernel
theorem dX6_cutTo_16 : decode cX6_cutTo 16 = .ok (.putfield 9, 3) := by decide +kernel
theorem dX6_cutTo_19 : decode cX6_cutTo 19 = .ok (.iconst 1, 1) := by decide +kernel
theorem dX6_cutTo_20 : decode cX6_cutTo 20 = .ok (.ireturn, 1) := by decide +kernel
theorem dX6_at_0 : decode cX6_at 0 = .ok (.iload_n 1, 1) := by decide +kernel
theorem dX6_at_1 : decode cX6_at 1 = .ok (.ifCond .lt 24, 3) := by decide +kernel
theorem dX6_at_4 : decode cX6_at 4 = .ok (.iload_n 1, 1) := by decide +kernel
theorem dX6_at_5 : decode cX6_at 5 = .ok (.aload_n 0, 1) := by decide +kernel
theorem dX6_at_6 : decode cX6_at 6 = .ok (.getfield 9, 3) := by decide +kernel
theorem dX6_at_9 : decode cX6_at 9 = .ok (.if_icmp .ge 16, 3) := by decide +kernel
theorem dX6_at_12 : decode cX6_at 12 = .ok (.aload_n 0, 1) := by decide +kernel
theorem dX6_at_13 : decode cX6_at 13 = .ok (.getfield 15, 3) := by decide +kernel
theorem dX6_at_16 : decode cX6_at 16 = .ok (.iload_n 1, 1) := by decide +kernel
theorem dX6_at_17 : decode cX6_at 17 = .ok (.baload, 1) := by decide +kernel
theorem dX6_at_18 : decode cX6_at 18 = .ok (.sipush 255, 3) := by decide +kernel
theorem dX6_at_21 : decode cX6_at 21 = .ok (.iand, 1) := by decide +kernel
theorem dX6_at_22 : decode cX6_at 22 = .ok (.goto 4, 3) := by decide +kernel
theorem dX6_at_25 : decode cX6_at 25 = .ok (.iconst (-1), 1) := by decide +kernel
theorem dX6_at_26 : decode cX6_at 26 = .ok (.ireturn, 1) := by decide +kernel

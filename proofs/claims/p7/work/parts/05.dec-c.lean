set_option maxRecDepth 20000 in
theorem ggX7_init_X2_init : GoodIn wsX7_init wsX2_init := goodIn_sl _ [(34, 2), (2, 2), (36, 14), (115, 12)] rfl (by decide +kernel)
set_option maxRecDepth 20000 in
theorem gX7_init_X2_init_n9 : GoodIn wsX7_init (wsX2_init) := ggX7_init_X2_init
set_option maxRecDepth 20000 in
theorem ggX7_init_X0_init : GoodIn wsX7_init wsX0_init := goodIn_sl _ [(51, 2), (2, 2), (53, 1), (41, 1), (54, 12), (135, 5)] rfl (by decide +kernel)
set_option maxRecDepth 20000 in
theorem gX7_init_X0_init_n18 : GoodIn wsX7_init (wsX0_init) := ggX7_init_X0_init
set_option maxRecDepth 20000 in
theorem ggX7_init_X3_init : GoodIn wsX7_init wsX3_init := goodIn_sl _ [(67, 2), (2, 2), (69, 1), (41, 1), (70, 9), (63, 3), (140, 9)] rfl (by decide +kernel)
set_option maxRecDepth 20000 in
theorem gX7_init_X3_init_n25 : GoodIn wsX7_init (wsX3_init) := ggX7_init_X3_init
set_option maxRecDepth 20000 in
theorem ggX7_init_X4_init : GoodIn wsX7_init wsX4_init := goodIn_sl _ [(80, 2), (2, 2), (41, 1), (82, 8), (63, 3), (149, 7)] rfl (by decide +kernel)
set_option maxRecDepth 20000 in
theorem gX7_init_X4_init_n32 : GoodIn wsX7_init (wsX4_init) := ggX7_init_X4_init
set_option maxRecDepth 20000 in
theorem ggX7_init_X6_init : GoodIn wsX7_init wsX6_init := goodIn_sl _ [(91, 2), (2, 2), (93, 3), (156, 2)] rfl (by decide +kernel)
set_option maxRecDepth 20000 in
theorem gX7_init_X6_init_n41 : GoodIn wsX7_init (wsX6_init) := ggX7_init_X6_init
set_option maxRecDepth 20000 in
theorem ggX7_init_X5_init : GoodIn wsX7_init wsX5_init := goodIn_sl _ [(97, 2), (2, 2), (41, 1), (99, 5), (158, 5)] rfl (by decide +kernel)
set_option maxRecDepth 20000 in
theorem gX7_init_X5_init_n48 : GoodIn wsX7_init (wsX5_init) := ggX7_init_X5_init
set_option maxRecDepth 20000 in
theorem ggX7_init_X1_init : GoodIn wsX7_init wsX1_init := goodIn_sl _ [(105, 2), (2, 2), (107, 2), (41, 1), (109, 6), (163, 8)] rfl (by decide +kernel)
set_option maxRecDepth 20000 in
theorem gX7_init_X1_init_n57 : GoodIn wsX7_init (wsX1_init) := ggX7_init_X1_init
theorem dX7_init_0 : decode cX7_init 0 = .ok (.aload_n 0, 1) := by decide +kernel
theorem dX7_init_1 : decode cX7_init 1 = .ok (.invokespecial 1, 3) := by decide +kernel
theorem dX7_init_4 : decode cX7_init 4 = .ok (.aload_n 0, 1) := by decide +kernel
theorem dX7_init_5 : decode cX7_init 5 = .ok (.new 7, 3) := by decide +kernel
theorem dX7_init_8 : decode cX7_init 8 = .ok (.dup, 1) := by decide +kernel
theorem dX7_init_9 : decode cX7_init 9 = .ok (.invokespecial 9, 3) := by decide +kernel
theorem dX7_init_12 : decode cX7_init 12 = .ok (.putfield 10, 3) := by decide +kernel
theorem dX7_init_15 : decode cX7_init 15 = .ok (.aload_n 0, 1) := by decide +kernel
theorem dX7_init_16 : decode cX7_init 16 = .ok (.new 16, 3) := by decide +kernel
theorem dX7_init_19 : decode cX7_init 19 = .ok (.dup, 1) := by decide +kernel
theorem dX7_init_20 : decode cX7_init 20 = .ok (.invokespecial 18, 3) := by decide +kernel
theorem dX7_init_23 : decode cX7_init 23 = .ok (.putfield 19, 3) := by decide +kernel
theorem dX7_init_26 : decode cX7_init 26 = .ok (.aload_n 0, 1) := by decide +kernel
theorem dX7_init_27 : decode cX7_init 27 = .ok (.new 23, 3) := by decide +kernel
theorem dX7_init_30 : decode cX7_init 30 = .ok (.dup, 1) := by decide +kernel
theorem dX7_init_31 : decode cX7_init 31 = .ok (.invokespecial 25, 3) := by decide +kernel
theorem dX7_init_34 : decode cX7_init 34 = .ok (.putfield 26, 3) := by decide +kernel
theorem dX7_init_37 : decode cX7_init 37 = .ok (.aload_n 0, 1) := by decide +kernel
theorem dX7_init_38 : decode cX7_init 38 = .ok (.new 30, 3) := by decide +kernel
theorem dX7_init_41 : decode cX7_init 41 = .ok (.dup, 1) := by decide +kernel
theorem dX7_init_42 : decode cX7_init 42 = .ok (.aload_n 0, 1) := by decide +kernel
theorem dX7_init_43 : decode cX7_init 43 = .ok (.getfield 26, 3) := by decide +kernel
theorem dX7_init_46 : decode cX7_init 46 = .ok (.aload_n 0, 1) := by decide +kernel
theorem dX7_init_47 : decode cX7_init 47 = .ok (.getfield 19, 3) := by decide +kernel
theorem dX7_init_50 : decode cX7_init 50 = .ok (.invokespecial 32, 3) := by decide +kernel
theorem dX7_init_53 : decode cX7_init 53 = .ok (.putfield 35, 3) := by decide +kernel
theorem dX7_init_56 : decode cX7_init 56 = .ok (.aload_n 0, 1) := by decide +kernel
theorem dX7_init_57 : decode cX7_init 57 = .ok (.new 39, 3) := by decide +kernel
theorem dX7_init_60 : decode cX7_init 60 = .ok (.dup, 1) := by decide +kernel
theorem dX7_init_61 : decode cX7_init 61 = .ok (.invokespecial 41, 3) := by decide +kernel
theorem dX7_init_64 : decode cX7_init 64 = .ok (.putfield 42, 3) := by decide +kernel
theorem dX7_init_67 : decode cX7_init 67 = .ok (.aload_n 0, 1) := by decide +kernel
theorem dX7_init_68 : decode cX7_init 68 = .ok (.new 46, 3) := by decide +kernel
theorem dX7_init_71 : decode cX7_init 71 = .ok (.dup, 1) := by decide +kernel
theorem dX7_init_72 : decode cX7_init 72 = .ok (.aload_n 0, 1) := by decide +kernel
theorem dX7_init_73 : decode cX7_init 73 = .ok (.getfield 42, 3) := by decide +kernel
theorem dX7_init_76 : decode cX7_init 76 = .ok (.invokespecial 48, 3) := by decide +kernel
theorem dX7_init_79 : decode cX7_init 79 = .ok (.putfield 51, 3) := by decide +kernel
theorem dX7_init_82 : decode cX7_init 82 = .ok (.aload_n 0, 1) := by decide +kernel
theorem dX7_init_83 : decode cX7_init 83 = .ok (.new 55, 3) := by decide +kernel
theorem dX7_init_86 : decode cX7_init 86 = .ok (.dup, 1) := by decide +kernel
theorem dX7_init_87 : decode cX7_init 87 = .ok (.aload_n 0, 1) := by decide +kernel
theorem dX7_init_88 : decode cX7_init 88 = .ok (.getfield 10, 3) := by decide +kernel
theorem dX7_init_91 : decode cX7_init 91 = .ok (.invokespecial 57, 3) := by decide +kernel
theorem dX7_init_94 : decode cX7_init 94 = .ok (.putfield 60, 3) := by decide +kernel
theorem dX7_init_97 : decode cX7_init 97 = .ok (.aload_n 0, 1) := by decide +kernel
theorem dX7_init_98 : decode cX7_init 98 = .ok (.iconst 0, 1) := by decide +kernel
theorem dX7_init_99 : decode cX7_init 99 = .ok (.putfield 64, 3) := by decide +kernel
theorem dX7_init_102 : decode cX7_init 102 = .ok (.return_, 1) := by decide +kernel
set_option maxRecDepth 20000 in
theorem ggX7_stall_X7_isOver : GoodIn wsX7_stall wsX7_isOver := goodIn_sl _ [(6, 2), (43, 8)] rfl (by decide +kernel)
set_option maxRecDepth 20000 in
theorem gX7_stall_X7_isOver : GoodIn wsX7_stall (wsV RX7 68 RX7 yX7_isOver wsX7_isOver) := goodIn_app (goodIn_of _ (by decide +kernel)) ggX7_stall_X7_isOver
set_option maxRecDepth 20000 in
theorem ggX7_stall_X2_addStall : GoodIn wsX7_stall wsX2_addStall := goodIn_sl _ [(11, 7), (9, 1), (18, 25), (51, 12)] rfl (by decide +kernel)
set_option maxRecDepth 20000 in
theorem gX7_stall_X2_addStall_n72 : GoodIn wsX7_stall (wsX2_addStall) := ggX7_stall_X2_addStall
theorem dX7_stall_0 : decode cX7_stall 0 = .ok (.aload_n 0, 1) := by decide +kernel
theorem dX7_stall_1 : decode cX7_stall 1 = .ok (.invokevirtual 68, 3) := by decide +kernel
theorem dX7_stall_4 : decode cX7_stall 4 = .ok (.ifCond .ne 14, 3) := by decide +kernel
theorem dX7_stall_7 : decode cX7_stall 7 = .ok (.iload_n 1, 1) := by decide +kernel
theorem dX7_stall_8 : decode cX7_stall 8 = .ok (.ifCond .lt 10, 3) := by decide +kernel
theorem dX7_stall_11 : decode cX7_stall 11 = .ok (.iload_n 1, 1) := by decide +kernel
theorem dX7_stall_12 : decode cX7_stall 12 = .ok (.sipush 1000, 3) := by decide +kernel
theorem dX7_stall_15 : decode cX7_stall 15 = .ok (.if_icmp .le 5, 3) := by decide +kernel
theorem dX7_stall_18 : decode cX7_stall 18 = .ok (.iconst (-1), 1) := by decide +kernel
theorem dX7_stall_19 : decode cX7_stall 19 = .ok (.ireturn, 1) := by decide +kernel
theorem dX7_stall_20 : decode cX7_stall 20 = .ok (.aload_n 0, 1) := by decide +kernel
theorem dX7_stall_21 : decode cX7_stall 21 = .ok (.getfield 10, 3) := by decide +kernel
theorem dX7_stall_24 : decode cX7_stall 24 = .ok (.iload_n 1, 1) := by decide +kernel
theorem dX7_stall_25 : decode cX7_stall 25 = .ok (.invokevirtual 72, 3) := by decide +kernel
theorem dX7_stall_28 : decode cX7_stall 28 = .ok (.ireturn, 1) := by decide +kernel
set_option maxRecDepth 20000 in
theorem ggX7_canon_X7_isOver : GoodIn wsX7_canon wsX7_isOver := goodIn_sl _ [(6, 2), (16, 8)] rfl (by decide +kernel)
set_option maxRecDepth 20000 in
theorem gX7_canon_X7_isOver : GoodIn wsX7_canon (wsV RX7 68 RX7 yX7_isOver wsX7_isOver) := goodIn_app (goodIn_of _ (by decide +kernel)) ggX7_canon_X7_isOver
set_option maxRecDepth 20000 in
theorem ggX7_canon_X2_addCanon : GoodIn wsX7_canon wsX2_addCanon := goodIn_sl _ [(11, 5), (24, 12)] rfl (by decide +kernel)
set_option maxRecDepth 20000 in
theorem gX7_canon_X2_addCanon_n76 : GoodIn wsX7_canon (wsX2_addCanon) := ggX7_canon_X2_addCanon
theorem dX7_canon_0 : decode cX7_canon 0 = .ok (.aload_n 0, 1) := by decide +kernel
theorem dX7_canon_1 : decode cX7_canon 1 = .ok (.invokevirtual 68, 3) := by decide +kernel
theorem dX7_canon_4 : decode cX7_canon 4 = .ok (.ifCond .eq 7, 3) := by decide +kernel
theorem dX7_canon_7 : decode cX7_canon 7 = .ok (.iconst (-1), 1) := by decide +kernel
theorem dX7_canon_8 : decode cX7_canon 8 = .ok (.goto 10, 3) := by decide +kernel
theorem dX7_canon_11 : decode cX7_canon 11 = .ok (.aload_n 0, 1) := by decide +kernel
theorem dX7_canon_12 : decode cX7_canon 12 = .ok (.getfield 10, 3) := by decide +kernel
theorem dX7_canon_15 : decode cX7_canon 15 = .ok (.invokevirtual 76, 3) := by decide +kernel
theorem dX7_canon_18 : decode cX7_canon 18 = .ok (.ireturn, 1) := by decide +kernel
set_option maxRecDepth 20000 in
theorem ggX7_wish_X7_isOver : GoodIn wsX7_wish wsX7_isOver := goodIn_sl _ [(6, 2), (21, 8)] rfl (by decide +kernel)
set_option maxRecDepth 20000 in
theorem gX7_wish_X7_isOver : GoodIn wsX7_wish (wsV RX7 68 RX7 yX7_isOver wsX7_isOver) := goodIn_app (goodIn_of _ (by decide +kernel)) ggX7_wish_X7_isOver
set_option maxRecDepth 20000 in
theorem ggX7_wish_X2_hasCanon : GoodIn wsX7_wish wsX2_hasCanon := goodIn_sl _ [(11, 2), (29, 12)] rfl (by decide +kernel)
set_option maxRecDepth 20000 in
theorem gX7_wish_X2_hasCanon_n80 : GoodIn wsX7_wish (wsX2_hasCanon) := ggX7_wish_X2_hasCanon
set_option maxRecDepth 20000 in
theorem ggX7_wish_X2_hasStall : GoodIn wsX7_wish wsX2_hasStall := goodIn_sl _ [(15, 2), (29, 12)] rfl (by decide +kernel)
set_option maxRecDepth 20000 in
theorem gX7_wish_X2_hasStall_n84 : GoodIn wsX7_wish (wsX2_hasStall) := ggX7_wish_X2_hasStall
set_option maxRecDepth 20000 in
theorem ggX7_wish_X2_setWish : GoodIn wsX7_wish wsX2_setWish := goodIn_sl _ [(19, 2), (29, 12)] rfl (by decide +kernel)
set_option maxRecDepth 20000 in
theorem gX7_wish_X2_setWish_n87 : GoodIn wsX7_wish (wsX2_setWish) := ggX7_wish_X2_setWish
theorem dX7_wish_0 : decode cX7_wish 0 = .ok (.aload_n 0, 1) := by decide +kernel
theorem dX7_wish_1 : decode cX7_wish 1 = .ok (.invokevirtual 68, 3) := by decide +kernel
theorem dX7_wish_4 : decode cX7_wish 4 = .ok (.ifCond .ne 25, 3) := by decide +kernel
theorem dX7_wish_7 : decode cX7_wish 7 = .ok (.aload_n 0, 1) := by decide +kernel
theorem dX7_wish_8 : decode cX7_wish 8 = .ok (.getfield 10, 3) := by decide +kernel
theorem dX7_wish_11 : decode cX7_wish 11 = .ok (.iload_n 1, 1) := by decide +kernel
theorem dX7_wish_12 : decode cX7_wish 12 = .ok (.invokevirtual 80, 3) := by decide +kernel
theorem dX7_wish_15 : decode cX7_wish 15 = .ok (.ifCond .eq 14, 3) := by decide +kernel
theorem dX7_wish_18 : decode cX7_wish 18 = .ok (.aload_n 0, 1) := by decide +kernel
theorem dX7_wish_19 : decode cX7_wish 19 = .ok (.getfield 10, 3) := by decide +kernel
theorem dX7_wish_22 : decode cX7_wish 22 = .ok (.iload_n 2, 1) := by decide +kernel
theorem dX7_wish_23 : decode cX7_wish 23 = .ok (.invokevirtual 84, 3) := by decide +kernel
theorem dX7_wish_26 : decode cX7_wish 26 = .ok (.ifCond .ne 5, 3) := by decide +kernel
theorem dX7_wish_29 : decode cX7_wish 29 = .ok (.iconst 0, 1) := by decide +kernel
theorem dX7_wish_30 : decode cX7_wish 30 = .ok (.ireturn, 1) := by decide +kernel
theorem dX7_wish_31 : decode cX7_wish 31 = .ok (.aload_n 0, 1) := by decide +kernel
theorem dX7_wish_32 : decode cX7_wish 32 = .ok (.getfield 10, 3) := by decide +kernel
theorem dX7_wish_35 : decode cX7_wish 35 = .ok (.iload_n 1, 1) := by decide +kernel
theorem dX7_wish_36 : decode cX7_wish 36 = .ok (.iload_n 2, 1) := by decide +kernel
theorem dX7_wish_37 : decode cX7_wish 37 = .ok (.iload_n 3, 1) := by decide +kernel
theorem dX7_wish_38 : decode cX7_wish 38 = .ok (.invokevirtual 87, 3) := by decide +kernel
theorem dX7_wish_41 : decode cX7_wish 41 = .ok (.ireturn, 1) := by decide +kernel
set_option maxRecDepth 20000 in
theorem ggX7_takes_X7_isOver : GoodIn wsX7_takes wsX7_isOver := goodIn_sl _ [(6, 2), (27, 8)] rfl (by decide +kernel)
set_option maxRecDepth 20000 in
theorem gX7_takes_X7_isOver : GoodIn wsX7_takes (wsV RX7 68 RX7 yX7_isOver wsX7_isOver) := goodIn_app (goodIn_of _ (by decide +kernel)) ggX7_takes_X7_isOver
set_option maxRecDepth 20000 in
theorem ggX7_takes_X2_isThere : GoodIn wsX7_takes wsX2_isThere := goodIn_sl _ [(11, 5), (9, 1), (16, 2), (35, 12)] rfl (by decide +kernel)
set_option maxRecDepth 20000 in
theorem gX7_takes_X2_isThere_n91 : GoodIn wsX7_takes (wsX2_isThere) := ggX7_takes_X2_isThere
set_option maxRecDepth 20000 in
theorem ggX7_takes_X2_hasStall : GoodIn wsX7_takes wsX2_hasStall := goodIn_sl _ [(20, 2), (35, 12)] rfl (by decide +kernel)
set_option maxRecDepth 20000 in
theorem gX7_takes_X2_hasStall_n84 : GoodIn wsX7_takes (wsX2_hasStall) := ggX7_takes_X2_hasStall
set_option maxRecDepth 20000 in
theorem ggX7_takes_X2_sitDown : GoodIn wsX7_takes wsX2_sitDown := goodIn_sl _ [(24, 3), (35, 12)] rfl (by decide +kernel)
set_option maxRecDepth 20000 in
theorem gX7_takes_X2_sitDown_n94 : GoodIn wsX7_takes (wsX2_sitDown) := ggX7_takes_X2_sitDown
theorem dX7_takes_0 : decode cX7_takes 0 = .ok (.aload_n 0, 1) := by decide +kernel
theorem dX7_takes_1 : decode cX7_takes 1 = .ok (.invokevirtual 68, 3) := by decide +kernel
theorem dX7_takes_4 : decode cX7_takes 4 = .ok (.ifCond .ne 25, 3) := by decide +kernel
theorem dX7_takes_7 : decode cX7_takes 7 = .ok (.aload_n 0, 1) := by decide +kernel
theorem dX7_takes_8 : decode cX7_takes 8 = .ok (.getfield 10, 3) := by decide +kernel
theorem dX7_takes_11 : decode cX7_takes 11 = .ok (.iload_n 1, 1) := by decide +kernel
theorem dX7_takes_12 : decode cX7_takes 12 = .ok (.invokevirtual 91, 3) := by decide +kernel
theorem dX7_takes_15 : decode cX7_takes 15 = .ok (.ifCond .eq 14, 3) := by decide +kernel
theorem dX7_takes_18 : decode cX7_takes 18 = .ok (.aload_n 0, 1) := by decide +kernel
theorem dX7_takes_19 : decode cX7_takes 19 = .ok (.getfield 10, 3) := by decide +kernel
theorem dX7_takes_22 : decode cX7_takes 22 = .ok (.iload_n 2, 1) := by decide +kernel
theorem dX7_takes_23 : decode cX7_takes 23 = .ok (.invokevirtual 84, 3) := by decide +kernel
theorem dX7_takes_26 : decode cX7_takes 26 = .ok (.ifCond .ne 5, 3) := by decide +kernel
theorem dX7_takes_29 : decode cX7_takes 29 = .ok (.iconst 0, 1) := by decide +kernel
theorem dX7_takes_30 : decode cX7_takes 30 = .ok (.ireturn, 1) := by decide +kernel
theorem dX7_takes_31 : decode cX7_takes 31 = .ok (.aload_n 0, 1) := by decide +kernel
theorem dX7_takes_32 : decode cX7_takes 32 = .ok (.getfield 10, 3) := by decide +kernel
theorem dX7_takes_35 : decode cX7_takes 35 = .ok (.iload_n 1, 1) := by decide +kernel
theorem dX7_takes_36 : decode cX7_takes 36 = .ok (.iload_n 2, 1) := by decide +kernel
theorem dX7_takes_37 : decode cX7_takes 37 = .ok (.invokevirtual 94, 3) := by decide +kernel
theorem dX7_takes_40 : decode cX7_takes 40 = .ok (.ireturn, 1) := by decide +kernel
set_option maxRecDepth 20000 in
theorem ggX7_leaves_X7_isOver : GoodIn wsX7_leaves wsX7_isOver := goodIn_sl _ [(7, 2), (57, 8)] rfl (by decide +kernel)
set_option maxRecDepth 20000 in
theorem gX7_leaves_X7_isOver : GoodIn wsX7_leaves (wsV RX7 68 RX7 yX7_isOver wsX7_isOver) := goodIn_app (goodIn_of _ (by decide +kernel)) ggX7_leaves_X7_isOver
set_option maxRecDepth 20000 in
theorem ggX7_leaves_X2_isThere : GoodIn wsX7_leaves wsX2_isThere := goodIn_sl _ [(12, 5), (10, 1), (17, 2), (65, 12)] rfl (by decide +kernel)
set_option maxRecDepth 20000 in
theorem gX7_leaves_X2_isThere_n91 : GoodIn wsX7_leaves (wsX2_isThere) := ggX7_leaves_X2_isThere
set_option maxRecDepth 20000 in
theorem ggX7_leaves_X1_forget : GoodIn wsX7_leaves wsX1_forget := goodIn_sl _ [(22, 3), (77, 8)] rfl (by decide +kernel)
set_option maxRecDepth 20000 in
theorem gX7_leaves_X1_forget_n98 : GoodIn wsX7_leaves (wsX1_forget) := ggX7_leaves_X1_forget
set_option maxRecDepth 20000 in
theorem ggX7_leaves_X2_depart : GoodIn wsX7_leaves wsX2_depart := goodIn_sl _ [(27, 2), (13, 1), (29, 6), (10, 1), (35, 5), (18, 1), (40, 17), (65, 12)] rfl (by decide +kernel)
set_option maxRecDepth 20000 in
theorem gX7_leaves_X2_depart_n102 : GoodIn wsX7_leaves (wsX2_depart) := ggX7_leaves_X2_depart
theorem dX7_leaves_0 : decode cX7_leaves 0 = .ok (.aload_n 0, 1) := by decide +kernel
theorem dX7_leaves_1 : decode cX7_leaves 1 = .ok (.invokevirtual 68, 3) := by decide +kernel
theorem dX7_leaves_4 : decode cX7_leaves 4 = .ok (.ifCond .ne 14, 3) := by decide +kernel
theorem dX7_leaves_7 : decode cX7_leaves 7 = .ok (.aload_n 0, 1) := by decide +kernel
theorem dX7_leaves_8 : decode cX7_leaves 8 = .ok (.getfield 10, 3) := by decide +kernel
theorem dX7_leaves_11 : decode cX7_leaves 11 = .ok (.iload_n 1, 1) := by decide +kernel
theorem dX7_leaves_12 : decode cX7_leaves 12 = .ok (.invokevirtual 91, 3) := by decide +kernel
theorem dX7_leaves_15 : decode cX7_leaves 15 = .ok (.ifCond .ne 5, 3) := by decide +kernel
theorem dX7_leaves_18 : decode cX7_leaves 18 = .ok (.iconst (-1), 1) := by decide +kernel
theorem dX7_leaves_19 : decode cX7_leaves 19 = .ok (.ireturn, 1) := by decide +kernel
theorem dX7_leaves_20 : decode cX7_leaves 20 = .ok (.aload_n 0, 1) := by decide +kernel
theorem dX7_leaves_21 : decode cX7_leaves 21 = .ok (.getfield 60, 3) := by decide +kernel
theorem dX7_leaves_24 : decode cX7_leaves 24 = .ok (.iload_n 1, 1) := by decide +kernel
theorem dX7_leaves_25 : decode cX7_leaves 25 = .ok (.invokevirtual 98, 3) := by decide +kernel
theorem dX7_leaves_28 : decode cX7_leaves 28 = .ok (.aload_n 0, 1) := by decide +kernel
theorem dX7_leaves_29 : decode cX7_leaves 29 = .ok (.getfield 10, 3) := by decide +kernel
theorem dX7_leaves_32 : decode cX7_leaves 32 = .ok (.iload_n 1, 1) := by decide +kernel
theorem dX7_leaves_33 : decode cX7_leaves 33 = .ok (.invokevirtual 102, 3) := by decide +kernel
theorem dX7_leaves_36 : decode cX7_leaves 36 = .ok (.ireturn, 1) := by decide +kernel
set_option maxRecDepth 20000 in
theorem ggX7_moved_X2_tellMove : GoodIn wsX7_moved wsX2_tellMove := goodIn_sl _ [(5, 5), (18, 12)] rfl (by decide +kernel)
set_option maxRecDepth 20000 in
theorem gX7_moved_X2_tellMove_n105 : GoodIn wsX7_moved (wsX2_tellMove) := ggX7_moved_X2_tellMove
theorem dX7_moved_0 : decode cX7_moved 0 = .ok (.aload_n 0, 1) := by decide +kernel
theorem dX7_moved_1 : decode cX7_moved 1 = .ok (.getfield 10, 3) := by decide +kernel
theorem dX7_moved_4 : decode cX7_moved 4 = .ok (.iload_n 1, 1) := by decide +kernel
theorem dX7_moved_5 : decode cX7_moved 5 = .ok (.iload_n 2, 1) := by decide +kernel
theorem dX7_moved_6 : decode cX7_moved 6 = .ok (.invokevirtual 105, 3) := by decide +kernel
theorem dX7_moved_9 : decode cX7_moved 9 = .ok (.ireturn, 1) := by decide +kernel
set_option maxRecDepth 20000 in
theorem ggX7_mark_X7_isOver : GoodIn wsX7_mark wsX7_isOver := goodIn_sl _ [(8, 1), (2, 1), (28, 8)] rfl (by decide +kernel)
set_option maxRecDepth 20000 in
theorem gX7_mark_X7_isOver : GoodIn wsX7_mark (wsV RX7 68 RX7 yX7_isOver wsX7_isOver) := goodIn_app (goodIn_of _ (by decide +kernel)) ggX7_mark_X7_isOver
set_option maxRecDepth 20000 in
theorem ggX7_mark_X2_hasCanon : GoodIn wsX7_mark wsX2_hasCanon := goodIn_sl _ [(12, 2), (36, 12)] rfl (by decide +kernel)
set_option maxRecDepth 20000 in
theorem gX7_mark_X2_hasCanon_n80 : GoodIn wsX7_mark (wsX2_hasCanon) := ggX7_mark_X2_hasCanon
set_option maxRecDepth 20000 in
theorem ggX7_mark_X7_isHour : GoodIn wsX7_mark wsX7_isHour := goodIn_sl _ [(16, 1)] rfl (by decide +kernel)
set_option maxRecDepth 20000 in
theorem gX7_mark_X7_isHour : GoodIn wsX7_mark (va_wsS RX7 109 yX7_isHour wsX7_isHour) := goodIn_app (goodIn_of _ (by decide +kernel)) ggX7_mark_X7_isHour
set_option maxRecDepth 20000 in
theorem ggX7_mark_X3_addMark : GoodIn wsX7_mark wsX3_addMark := goodIn_sl _ [(20, 8), (48, 9)] rfl (by decide +kernel)
set_option maxRecDepth 20000 in
theorem gX7_mark_X3_addMark_n112 : GoodIn wsX7_mark (wsX3_addMark) := ggX7_mark_X3_addMark
theorem dX7_mark_0 : decode cX7_mark 0 = .ok (.aload_n 0, 1) := by decide +kernel
theorem dX7_mark_1 : decode cX7_mark 1 = .ok (.invokevirtual 68, 3) := by decide +kernel
theorem dX7_mark_4 : decode cX7_mark 4 = .ok (.ifCond .ne 26, 3) := by decide +kernel
theorem dX7_mark_7 : decode cX7_mark 7 = .ok (.aload_n 0, 1) := by decide +kernel
theorem dX7_mark_8 : decode cX7_mark 8 = .ok (.getfield 10, 3) := by decide +kernel
theorem dX7_mark_11 : decode cX7_mark 11 = .ok (.iload_n 1, 1) := by decide +kernel
theorem dX7_mark_12 : decode cX7_mark 12 = .ok (.invokevirtual 80, 3) := by decide +kernel
theorem dX7_mark_15 : decode cX7_mark 15 = .ok (.ifCond .eq 15, 3) := by decide +kernel
theorem dX7_mark_18 : decode cX7_mark 18 = .ok (.iload_n 2, 1) := by decide +kernel
theorem dX7_mark_19 : decode cX7_mark 19 = .ok (.ifCond .lt 11, 3) := by decide +kernel
theorem dX7_mark_22 : decode cX7_mark 22 = .ok (.iload_n 2, 1) := by decide +kernel
theorem dX7_mark_23 : decode cX7_mark 23 = .ok (.aload_n 0, 1) := by decide +kernel
theorem dX7_mark_24 : decode cX7_mark 24 = .ok (.getfield 64, 3) := by decide +kernel
theorem dX7_mark_27 : decode cX7_mark 27 = .ok (.if_icmp .le 5, 3) := by decide +kernel
theorem dX7_mark_30 : decode cX7_mark 30 = .ok (.iconst (-1), 1) := by decide +kernel
theorem dX7_mark_31 : decode cX7_mark 31 = .ok (.ireturn, 1) := by decide +kernel
theorem dX7_mark_32 : decode cX7_mark 32 = .ok (.iload_n 3, 1) := by decide +kernel
theorem dX7_mark_33 : decode cX7_mark 33 = .ok (.invokestatic 109, 3) := by decide +kernel
theorem dX7_mark_36 : decode cX7_mark 36 = .ok (.ifCond .eq 14, 3) := by decide +kernel
theorem dX7_mark_39 : decode cX7_mark 39 = .ok (.iload 4, 2) := by decide +kernel
theorem dX7_mark_41 : decode cX7_mark 41 = .ok (.ifCond .lt 9, 3) := by decide +kernel
theorem dX7_mark_44 : decode cX7_mark 44 = .ok (.iload 4, 2) := by decide +kernel
theorem dX7_mark_46 : decode cX7_mark 46 = .ok (.iconst 4, 1) := by decide +kernel
theorem dX7_mark_47 : decode cX7_mark 47 = .ok (.if_icmp .le 5, 3) := by decide +kernel
theorem dX7_mark_50 : decode cX7_mark 50 = .ok (.iconst (-1), 1) := by decide +kernel
theorem dX7_mark_51 : decode cX7_mark 51 = .ok (.ireturn, 1) := by decide +kernel
theorem dX7_mark_52 : decode cX7_mark 52 = .ok (.aload_n 0, 1) := by decide +kernel
theorem dX7_mark_53 : decode cX7_mark 53 = .ok (.getfield 26, 3) := by decide +kernel
theorem dX7_mark_56 : decode cX7_mark 56 = .ok (.iload_n 1, 1) := by decide +kernel
theorem dX7_mark_57 : decode cX7_mark 57 = .ok (.iload_n 2, 1) := by decide +kernel
theorem dX7_mark_58 : decode cX7_mark 58 = .ok (.iload_n 3, 1) := by decide +kernel
theorem dX7_mark_59 : decode cX7_mark 59 = .ok (.iload 4, 2) := by decide +kernel
theorem dX7_mark_61 : decode cX7_mark 61 = .ok (.aload_n 0, 1) := by decide +kernel
theorem dX7_mark_62 : decode cX7_mark 62 = .ok (.getfield 64, 3) := by decide +kernel
theorem dX7_mark_65 : decode cX7_mark 65 = .ok (.invokevirtual 112, 3) := by decide +kernel
theorem dX7_mark_68 : decode cX7_mark 68 = .ok (.ireturn, 1) := by decide +kernel
set_option maxRecDepth 20000 in
theorem ggX7_box_X7_isDay : GoodIn wsX7_box wsX7_isDay := goodIn_sl _ [(7, 1)] rfl (by decide +kernel)
set_option maxRecDepth 20000 in
theorem gX7_box_X7_isDay : GoodIn wsX7_box (va_wsS RX7 116 yX7_isDay wsX7_isDay) := goodIn_app (goodIn_of _ (by decide +kernel)) ggX7_box_X7_isDay
set_option maxRecDepth 20000 in
theorem ggX7_box_X4_fill : GoodIn wsX7_box wsX4_fill := goodIn_sl _ [(11, 2), (21, 7)] rfl (by decide +kernel)
set_option maxRecDepth 20000 in
theorem gX7_box_X4_fill_n120 : GoodIn wsX7_box (wsX4_fill) := ggX7_box_X4_fill
theorem dX7_box_0 : decode cX7_box 0 = .ok (.iload_n 1, 1) := by decide +kernel
theorem dX7_box_1 : decode cX7_box 1 = .ok (.invokestatic 116, 3) := by decide +kernel
theorem dX7_box_4 : decode cX7_box 4 = .ok (.ifCond .eq 21, 3) := by decide +kernel
theorem dX7_box_7 : decode cX7_box 7 = .ok (.iload_n 1, 1) := by decide +kernel
theorem dX7_box_8 : decode cX7_box 8 = .ok (.aload_n 0, 1) := by decide +kernel
theorem dX7_box_9 : decode cX7_box 9 = .ok (.getfield 64, 3) := by decide +kernel
theorem dX7_box_12 : decode cX7_box 12 = .ok (.if_icmp .lt 13, 3) := by decide +kernel
theorem dX7_box_15 : decode cX7_box 15 = .ok (.iload_n 2, 1) := by decide +kernel
theorem dX7_box_16 : decode cX7_box 16 = .ok (.ifCond .lt 9, 3) := by decide +kernel
theorem dX7_box_19 : decode cX7_box 19 = .ok (.iload_n 2, 1) := by decide +kernel
theorem dX7_box_20 : decode cX7_box 20 = .ok (.ldc 119, 2) := by decide +kernel
theorem dX7_box_22 : decode cX7_box 22 = .ok (.if_icmp .le 5, 3) := by decide +kernel
theorem dX7_box_25 : decode cX7_box 25 = .ok (.iconst 0, 1) := by decide +kernel
theorem dX7_box_26 : decode cX7_box 26 = .ok (.ireturn, 1) := by decide +kernel
theorem dX7_box_27 : decode cX7_box 27 = .ok (.aload_n 0, 1) := by decide +kernel
theorem dX7_box_28 : decode cX7_box 28 = .ok (.getfield 35, 3) := by decide +kernel
theorem dX7_box_31 : decode cX7_box 31 = .ok (.iload_n 1, 1) := by decide +kernel
theorem dX7_box_32 : decode cX7_box 32 = .ok (.iload_n 2, 1) := by decide +kernel
theorem dX7_box_33 : decode cX7_box 33 = .ok (.invokevirtual 120, 3) := by decide +kernel
theorem dX7_box_36 : decode cX7_box 36 = .ok (.ireturn, 1) := by decide +kernel
set_option maxRecDepth 20000 in
theorem ggX7_night_X7_isOver : GoodIn wsX7_night wsX7_isOver := goodIn_sl _ [(8, 1), (2, 1), (82, 8)] rfl (by decide +kernel)
set_option maxRecDepth 20000 in
theorem gX7_night_X7_isOver : GoodIn wsX7_night (wsV RX7 68 RX7 yX7_isOver wsX7_isOver) := goodIn_app (goodIn_of _ (by decide +kernel)) ggX7_night_X7_isOver
set_option maxRecDepth 20000 in
theorem ggX7_night_X4_payShares : GoodIn wsX7_night wsX4_payShares := goodIn_sl _ [(12, 7), (10, 1), (19, 53), (90, 21)] rfl (by decide +kernel)
set_option maxRecDepth 20000 in
theorem gX7_night_X4_payShares_n123 : GoodIn wsX7_night (wsX4_payShares) := ggX7_night_X4_payShares
set_option maxRecDepth 20000 in
theorem ggX7_night_X4_payWorth : GoodIn wsX7_night wsX4_payWorth := goodIn_sl _ [(74, 8), (111, 12), (90, 7)] rfl (by decide +kernel)
set_option maxRecDepth 20000 in
theorem gX7_night_X4_payWorth_n126 : GoodIn wsX7_night (wsX4_payWorth) := ggX7_night_X4_payWorth
theorem dX7_night_0 : decode cX7_night 0 = .ok (.aload_n 0, 1) := by decide +kernel
theorem dX7_night_1 : decode cX7_night 1 = .ok (.invokevirtual 68, 3) := by decide +kernel
theorem dX7_night_4 : decode cX7_night 4 = .ok (.ifCond .eq 5, 3) := by decide +kernel
theorem dX7_night_7 : decode cX7_night 7 = .ok (.iconst (-1), 1) := by decide +kernel
theorem dX7_night_8 : decode cX7_night 8 = .ok (.ireturn, 1) := by decide +kernel
theorem dX7_night_9 : decode cX7_night 9 = .ok (.aload_n 0, 1) := by decide +kernel
theorem dX7_night_10 : decode cX7_night 10 = .ok (.getfield 35, 3) := by decide +kernel
theorem dX7_night_13 : decode cX7_night 13 = .ok (.aload_n 0, 1) := by decide +kernel
theorem dX7_night_14 : decode cX7_night 14 = .ok (.getfield 64, 3) := by decide +kernel
theorem dX7_night_17 : decode cX7_night 17 = .ok (.invokevirtual 123, 3) := by decide +kernel
theorem dX7_night_20 : decode cX7_night 20 = .ok (.aload_n 0, 1) := by decide +kernel
theorem dX7_night_21 : decode cX7_night 21 = .ok (.getfield 35, 3) := by decide +kernel
theorem dX7_night_24 : decode cX7_night 24 = .ok (.aload_n 0, 1) := by decide +kernel
theorem dX7_night_25 : decode cX7_night 25 = .ok (.getfield 10, 3) := by decide +kernel
theorem dX7_night_28 : decode cX7_night 28 = .ok (.invokevirtual 126, 3) := by decide +kernel
theorem dX7_night_31 : decode cX7_night 31 = .ok (.aload_n 0, 1) := by decide +kernel
theorem dX7_night_32 : decode cX7_night 32 = .ok (.dup, 1) := by decide +kernel
theorem dX7_night_33 : decode cX7_night 33 = .ok (.getfield 64, 3) := by decide +kernel
theorem dX7_night_36 : decode cX7_night 36 = .ok (.iconst 1, 1) := by decide +kernel
theorem dX7_night_37 : decode cX7_night 37 = .ok (.iadd, 1) := by decide +kernel
theorem dX7_night_38 : decode cX7_night 38 = .ok (.putfield 64, 3) := by decide +kernel
theorem dX7_night_41 : decode cX7_night 41 = .ok (.aload_n 0, 1) := by decide +kernel
theorem dX7_night_42 : decode cX7_night 42 = .ok (.getfield 64, 3) := by decide +kernel
theorem dX7_night_45 : decode cX7_night 45 = .ok (.ireturn, 1) := by decide +kernel
set_option maxRecDepth 20000 in
theorem ggX7_marked_X7_isAsked : GoodIn wsX7_marked wsX7_isAsked := goodIn_sl _ [(6, 9), (5, 1), (15, 1), (29, 20)] rfl (by decide +kernel)
set_option maxRecDepth 20000 in
theorem gX7_marked_X7_isAsked : GoodIn wsX7_marked (wsV RX7 129 RX7 yX7_isAsked wsX7_isAsked) := goodIn_app (goodIn_of _ (by decide +kernel)) ggX7_marked_X7_isAsked
set_option maxRecDepth 20000 in
theorem ggX7_marked_X7_isHour : GoodIn wsX7_marked wsX7_isHour := goodIn_sl _ [(18, 1)] rfl (by decide +kernel)
set_option maxRecDepth 20000 in
theorem gX7_marked_X7_isHour : GoodIn wsX7_marked (va_wsS RX7 109 yX7_isHour wsX7_isHour) := goodIn_app (goodIn_of _ (by decide +kernel)) ggX7_marked_X7_isHour
set_option maxRecDepth 20000 in
theorem ggX7_marked_X3_lastMark : GoodIn wsX7_marked wsX3_lastMark := goodIn_sl _ [(22, 7), (49, 9)] rfl (by decide +kernel)
set_option maxRecDepth 20000 in
theorem gX7_marked_X3_lastMark_n133 : GoodIn wsX7_marked (wsX3_lastMark) := ggX7_marked_X3_lastMark
theorem dX7_marked_0 : decode cX7_marked 0 = .ok (.aload_n 0, 1) := by decide +kernel
theorem dX7_marked_1 : decode cX7_marked 1 = .ok (.iload_n 1, 1) := by decide +kernel
theorem dX7_marked_2 : decode cX7_marked 2 = .ok (.iload_n 2, 1) := by decide +kernel
theorem dX7_marked_3 : decode cX7_marked 3 = .ok (.iload 4, 2) := by decide +kernel
theorem dX7_marked_5 : decode cX7_marked 5 = .ok (.invokevirtual 129, 3) := by decide +kernel
theorem dX7_marked_8 : decode cX7_marked 8 = .ok (.ifCond .eq 10, 3) := by decide +kernel
theorem dX7_marked_11 : decode cX7_marked 11 = .ok (.iload_n 3, 1) := by decide +kernel
theorem dX7_marked_12 : decode cX7_marked 12 = .ok (.invokestatic 109, 3) := by decide +kernel
theorem dX7_marked_15 : decode cX7_marked 15 = .ok (.ifCond .ne 5, 3) := by decide +kernel
theorem dX7_marked_18 : decode cX7_marked 18 = .ok (.iconst (-1), 1) := by decide +kernel
theorem dX7_marked_19 : decode cX7_marked 19 = .ok (.ireturn, 1) := by decide +kernel
theorem dX7_marked_20 : decode cX7_marked 20 = .ok (.aload_n 0, 1) := by decide +kernel
theorem dX7_marked_21 : decode cX7_marked 21 = .ok (.getfield 26, 3) := by decide +kernel
theorem dX7_marked_24 : decode cX7_marked 24 = .ok (.iload_n 1, 1) := by decide +kernel
theorem dX7_marked_25 : decode cX7_marked 25 = .ok (.iload_n 2, 1) := by decide +kernel
theorem dX7_marked_26 : decode cX7_marked 26 = .ok (.iload_n 3, 1) := by decide +kernel
theorem dX7_marked_27 : decode cX7_marked 27 = .ok (.iload 4, 2) := by decide +kernel
theorem dX7_marked_29 : decode cX7_marked 29 = .ok (.invokevirtual 133, 3) := by decide +kernel
theorem dX7_marked_32 : decode cX7_marked 32 = .ok (.ireturn, 1) := by decide +kernel
set_option maxRecDepth 20000 in
theorem ggX7_points_X7_isAsked : GoodIn wsX7_points wsX7_isAsked := goodIn_sl _ [(6, 9), (5, 1), (15, 1), (62, 20)] rfl (by decide +kernel)
set_option maxRecDepth 20000 in
theorem gX7_points_X7_isAsked : GoodIn wsX7_points (wsV RX7 129 RX7 yX7_isAsked wsX7_isAsked) := goodIn_app (goodIn_of _ (by decide +kernel)) ggX7_points_X7_isAsked
set_option maxRecDepth 20000 in
theorem ggX7_points_X4_pointsOf : GoodIn wsX7_points wsX4_pointsOf := goodIn_sl _ [(19, 43), (82, 21)] rfl (by decide +kernel)
set_option maxRecDepth 20000 in
theorem gX7_points_X4_pointsOf_n137 : GoodIn wsX7_points (wsX4_pointsOf) := ggX7_points_X4_pointsOf
theorem dX7_points_0 : decode cX7_points 0 = .ok (.aload_n 0, 1) := by decide +kernel
theorem dX7_points_1 : decode cX7_points 1 = .ok (.iload_n 1, 1) := by decide +kernel
theorem dX7_points_2 : decode cX7_points 2 = .ok (.iload_n 2, 1) := by decide +kernel
theorem dX7_points_3 : decode cX7_points 3 = .ok (.iload_n 3, 1) := by decide +kernel
theorem dX7_points_4 : decode cX7_points 4 = .ok (.invokevirtual 129, 3) := by decide +kernel
theorem dX7_points_7 : decode cX7_points 7 = .ok (.ifCond .eq 16, 3) := by decide +kernel
theorem dX7_points_10 : decode cX7_points 10 = .ok (.aload_n 0, 1) := by decide +kernel
theorem dX7_points_11 : decode cX7_points 11 = .ok (.getfield 35, 3) := by decide +kernel
theorem dX7_points_14 : decode cX7_points 14 = .ok (.iload_n 1, 1) := by decide +kernel
theorem dX7_points_15 : decode cX7_points 15 = .ok (.iload_n 2, 1) := by decide +kernel
theorem dX7_points_16 : decode cX7_points 16 = .ok (.iload_n 3, 1) := by decide +kernel
theorem dX7_points_17 : decode cX7_points 17 = .ok (.invokevirtual 137, 3) := by decide +kernel
theorem dX7_points_20 : decode cX7_points 20 = .ok (.goto 4, 3) := by decide +kernel
theorem dX7_points_23 : decode cX7_points 23 = .ok (.iconst (-1), 1) := by decide +kernel
theorem dX7_points_24 : decode cX7_points 24 = .ok (.ireturn, 1) := by decide +kernel
set_option maxRecDepth 20000 in
theorem ggX7_share_X7_isAsked : GoodIn wsX7_share wsX7_isAsked := goodIn_sl _ [(6, 9), (5, 1), (15, 1), (77, 20)] rfl (by decide +kernel)
set_option maxRecDepth 20000 in
theorem gX7_share_X7_isAsked : GoodIn wsX7_share (wsV RX7 129 RX7 yX7_isAsked wsX7_isAsked) := goodIn_app (goodIn_of _ (by decide +kernel)) ggX7_share_X7_isAsked
set_option maxRecDepth 20000 in
theorem ggX7_share_X4_shareOf : GoodIn wsX7_share wsX4_shareOf := goodIn_sl _ [(19, 5), (17, 1), (24, 53), (97, 21)] rfl (by decide +kernel)
set_option maxRecDepth 20000 in
theorem gX7_share_X4_shareOf_n141 : GoodIn wsX7_share (wsX4_shareOf) := ggX7_share_X4_shareOf
theorem dX7_share_0 : decode cX7_share 0 = .ok (.aload_n 0, 1) := by decide +kernel
theorem dX7_share_1 : decode cX7_share 1 = .ok (.iload_n 1, 1) := by decide +kernel
theorem dX7_share_2 : decode cX7_share 2 = .ok (.iload_n 2, 1) := by decide +kernel
theorem dX7_share_3 : decode cX7_share 3 = .ok (.iload_n 3, 1) := by decide +kernel
theorem dX7_share_4 : decode cX7_share 4 = .ok (.invokevirtual 129, 3) := by decide +kernel
theorem dX7_share_7 : decode cX7_share 7 = .ok (.ifCond .eq 16, 3) := by decide +kernel
theorem dX7_share_10 : decode cX7_share 10 = .ok (.aload_n 0, 1) := by decide +kernel
theorem dX7_share_11 : decode cX7_share 11 = .ok (.getfield 35, 3) := by decide +kernel
theorem dX7_share_14 : decode cX7_share 14 = .ok (.iload_n 1, 1) := by decide +kernel
theorem dX7_share_15 : decode cX7_share 15 = .ok (.iload_n 2, 1) := by decide +kernel
theorem dX7_share_16 : decode cX7_share 16 = .ok (.iload_n 3, 1) := by decide +kernel
theorem dX7_share_17 : decode cX7_share 17 = .ok (.invokevirtual 141, 3) := by decide +kernel
theorem dX7_share_20 : decode cX7_share 20 = .ok (.goto 4, 3) := by decide +kernel
theorem dX7_share_23 : decode cX7_share 23 = .ok (.iconst (-1), 1) := by decide +kernel
theorem dX7_share_24 : decode cX7_share 24 = .ok (.ireturn, 1) := by decide +kernel
set_option maxRecDepth 20000 in
theorem ggX7_paid_X2_hasCanon : GoodIn wsX7_paid wsX2_hasCanon := goodIn_sl _ [(7, 2), (86, 12)] rfl (by decide +kernel)
set_option maxRecDepth 20000 in
theorem gX7_paid_X2_hasCanon_n80 : GoodIn wsX7_paid (wsX2_hasCanon) := ggX7_paid_X2_hasCanon
set_option maxRecDepth 20000 in
theorem ggX7_paid_X7_isDay : GoodIn wsX7_paid wsX7_isDay := goodIn_sl _ [(12, 1)] rfl (by decide +kernel)
set_option maxRecDepth 20000 in
theorem gX7_paid_X7_isDay : GoodIn wsX7_paid (va_wsS RX7 116 yX7_isDay wsX7_isDay) := goodIn_app (goodIn_of _ (by decide +kernel)) ggX7_paid_X7_isDay
set_option maxRecDepth 20000 in
theorem ggX7_paid_X4_paidShareOf : GoodIn wsX7_paid wsX4_paidShareOf := goodIn_sl _ [(16, 4), (14, 1), (20, 58), (98, 21)] rfl (by decide +kernel)
set_option maxRecDepth 20000 in
theorem gX7_paid_X4_paidShareOf_n144 : GoodIn wsX7_paid (wsX4_paidShareOf) := ggX7_paid_X4_paidShareOf
theorem dX7_paid_0 : decode cX7_paid 0 = .ok (.aload_n 0, 1) := by decide +kernel
theorem dX7_paid_1 : decode cX7_paid 1 = .ok (.getfield 10, 3) := by decide +kernel
theorem dX7_paid_4 : decode cX7_paid 4 = .ok (.iload_n 1, 1) := by decide +kernel
theorem dX7_paid_5 : decode cX7_paid 5 = .ok (.invokevirtual 80, 3) := by decide +kernel
theorem dX7_paid_8 : decode cX7_paid 8 = .ok (.ifCond .eq 18, 3) := by decide +kernel
theorem dX7_paid_11 : decode cX7_paid 11 = .ok (.iload_n 2, 1) := by decide +kernel
theorem dX7_paid_12 : decode cX7_paid 12 = .ok (.invokestatic 116, 3) := by decide +kernel
theorem dX7_paid_15 : decode cX7_paid 15 = .ok (.ifCond .eq 11, 3) := by decide +kernel
theorem dX7_paid_18 : decode cX7_paid 18 = .ok (.iload_n 2, 1) := by decide +kernel
theorem dX7_paid_19 : decode cX7_paid 19 = .ok (.aload_n 0, 1) := by decide +kernel
theorem dX7_paid_20 : decode cX7_paid 20 = .ok (.getfield 64, 3) := by decide +kernel
theorem dX7_paid_23 : decode cX7_paid 23 = .ok (.if_icmp .lt 5, 3) := by decide +kernel
theorem dX7_paid_26 : decode cX7_paid 26 = .ok (.iconst (-1), 1) := by decide +kernel
theorem dX7_paid_27 : decode cX7_paid 27 = .ok (.ireturn, 1) := by decide +kernel
theorem dX7_paid_28 : decode cX7_paid 28 = .ok (.aload_n 0, 1) := by decide +kernel
theorem dX7_paid_29 : decode cX7_paid 29 = .ok (.getfield 35, 3) := by decide +kernel
theorem dX7_paid_32 : decode cX7_paid 32 = .ok (.iload_n 1, 1) := by decide +kernel
theorem dX7_paid_33 : decode cX7_paid 33 = .ok (.iload_n 2, 1) := by decide +kernel
theorem dX7_paid_34 : decode cX7_paid 34 = .ok (.invokevirtual 144, 3) := by decide +kernel
theorem dX7_paid_37 : decode cX7_paid 37 = .ok (.ireturn, 1) := by decide +kernel
set_option maxRecDepth 20000 in
theorem ggX7_back_X2_hasCanon : GoodIn wsX7_back wsX2_hasCanon := goodIn_sl _ [(7, 2), (86, 12)] rfl (by decide +kernel)
set_option maxRecDepth 20000 in
theorem gX7_back_X2_hasCanon_n80 : GoodIn wsX7_back (wsX2_hasCanon) := ggX7_back_X2_hasCanon
set_option maxRecDepth 20000 in
theorem ggX7_back_X4_owedTo : GoodIn wsX7_back wsX4_owedTo := goodIn_sl _ [(12, 12), (10, 1), (24, 54), (98, 21)] rfl (by decide +kernel)
set_option maxRecDepth 20000 in
theorem gX7_back_X4_owedTo_n147 : GoodIn wsX7_back (wsX4_owedTo) := ggX7_back_X4_owedTo
theorem dX7_back_0 : decode cX7_back 0 = .ok (.aload_n 0, 1) := by decide +kernel
theorem dX7_back_1 : decode cX7_back 1 = .ok (.getfield 10, 3) := by decide +kernel
theorem dX7_back_4 : decode cX7_back 4 = .ok (.iload_n 1, 1) := by decide +kernel
theorem dX7_back_5 : decode cX7_back 5 = .ok (.invokevirtual 80, 3) := by decide +kernel
theorem dX7_back_8 : decode cX7_back 8 = .ok (.ifCond .eq 18, 3) := by decide +kernel
theorem dX7_back_11 : decode cX7_back 11 = .ok (.aload_n 0, 1) := by decide +kernel
theorem dX7_back_12 : decode cX7_back 12 = .ok (.getfield 35, 3) := by decide +kernel
theorem dX7_back_15 : decode cX7_back 15 = .ok (.iload_n 1, 1) := by decide +kernel
theorem dX7_back_16 : decode cX7_back 16 = .ok (.aload_n 0, 1) := by decide +kernel
theorem dX7_back_17 : decode cX7_back 17 = .ok (.getfield 64, 3) := by decide +kernel
theorem dX7_back_20 : decode cX7_back 20 = .ok (.invokevirtual 147, 3) := by decide +kernel
theorem dX7_back_23 : decode cX7_back 23 = .ok (.goto 4, 3) := by decide +kernel
theorem dX7_back_26 : decode cX7_back 26 = .ok (.iconst 0, 1) := by decide +kernel
theorem dX7_back_27 : decode cX7_back 27 = .ok (.ireturn, 1) := by decide +kernel
set_option maxRecDepth 20000 in
theorem ggX7_feed_X6_hasRoom : GoodIn wsX7_feed wsX6_hasRoom := goodIn_sl _ [(5, 2), (20, 2)] rfl (by decide +kernel)
set_option maxRecDepth 20000 in
theorem gX7_feed_X6_hasRoom_n150 : GoodIn wsX7_feed (wsX6_hasRoom) := ggX7_feed_X6_hasRoom
set_option maxRecDepth 20000 in
theorem ggX7_feed_X6_append : GoodIn wsX7_feed wsX6_append := goodIn_sl _ [(9, 2), (6, 1), (11, 1), (2, 1), (4, 1), (3, 1), (5, 1), (20, 2)] rfl (by decide +kernel)
set_option maxRecDepth 20000 in
theorem gX7_feed_X6_append_n153 : GoodIn wsX7_feed (wsX6_append) := ggX7_feed_X6_append
theorem dX7_feed_0 : decode cX7_feed 0 = .ok (.aload_n 0, 1) := by decide +kernel
theorem dX7_feed_1 : decode cX7_feed 1 = .ok (.getfield 42, 3) := by decide +kernel
theorem dX7_feed_4 : decode cX7_feed 4 = .ok (.bipush 20, 2) := by decide +kernel
theorem dX7_feed_6 : decode cX7_feed 6 = .ok (.invokevirtual 150, 3) := by decide +kernel
theorem dX7_feed_9 : decode cX7_feed 9 = .ok (.ifCond .ne 5, 3) := by decide +kernel
theorem dX7_feed_12 : decode cX7_feed 12 = .ok (.iconst (-1), 1) := by decide +kernel
theorem dX7_feed_13 : decode cX7_feed 13 = .ok (.ireturn, 1) := by decide +kernel
theorem dX7_feed_14 : decode cX7_feed 14 = .ok (.aload_n 0, 1) := by decide +kernel
theorem dX7_feed_15 : decode cX7_feed 15 = .ok (.getfield 42, 3) := by decide +kernel
theorem dX7_feed_18 : decode cX7_feed 18 = .ok (.iload_n 1, 1) := by decide +kernel
theorem dX7_feed_19 : decode cX7_feed 19 = .ok (.invokevirtual 153, 3) := by decide +kernel
theorem dX7_feed_22 : decode cX7_feed 22 = .ok (.aload_n 0, 1) := by decide +kernel
theorem dX7_feed_23 : decode cX7_feed 23 = .ok (.getfield 42, 3) := by decide +kernel
theorem dX7_feed_26 : decode cX7_feed 26 = .ok (.iload_n 2, 1) := by decide +kernel
theorem dX7_feed_27 : decode cX7_feed 27 = .ok (.invokevirtual 153, 3) := by decide +kernel
theorem dX7_feed_30 : decode cX7_feed 30 = .ok (.aload_n 0, 1) := by decide +kernel
theorem dX7_feed_31 : decode cX7_feed 31 = .ok (.getfield 42, 3) := by decide +kernel
theorem dX7_feed_34 : decode cX7_feed 34 = .ok (.iload_n 3, 1) := by decide +kernel
theorem dX7_feed_35 : decode cX7_feed 35 = .ok (.invokevirtual 153, 3) := by decide +kernel
theorem dX7_feed_38 : decode cX7_feed 38 = .ok (.aload_n 0, 1) := by decide +kernel
theorem dX7_feed_39 : decode cX7_feed 39 = .ok (.getfield 42, 3) := by decide +kernel
theorem dX7_feed_42 : decode cX7_feed 42 = .ok (.iload 4, 2) := by decide +kernel
theorem dX7_feed_44 : decode cX7_feed 44 = .ok (.invokevirtual 153, 3) := by decide +kernel
theorem dX7_feed_47 : decode cX7_feed 47 = .ok (.aload_n 0, 1) := by decide +kernel
theorem dX7_feed_48 : decode cX7_feed 48 = .ok (.getfield 42, 3) := by decide +kernel
theorem dX7_feed_51 : decode cX7_feed 51 = .ok (.iload 5, 2) := by decide +kernel
theorem dX7_feed_53 : decode cX7_feed 53 = .ok (.invokevirtual 153, 3) := by decide +kernel
theorem dX7_feed_56 : decode cX7_feed 56 = .ok (.aload_n 0, 1) := by decide +kernel
theorem dX7_feed_57 : decode cX7_feed 57 = .ok (.getfield 42, 3) := by decide +kernel
theorem dX7_feed_60 : decode cX7_feed 60 = .ok (.getfield 156, 3) := by decide +kernel
theorem dX7_feed_63 : decode cX7_feed 63 = .ok (.ireturn, 1) := by decide +kernel
set_option maxRecDepth 20000 in
theorem ggX7_end_X6_cutTo : GoodIn wsX7_end wsX6_cutTo := goodIn_sl _ [(5, 2), (15, 2)] rfl (by decide +kernel)
set_option maxRecDepth 20000 in
theorem gX7_end_X6_cutTo_n159 : GoodIn wsX7_end (wsX6_cutTo) := ggX7_end_X6_cutTo
theorem dX7_end_0 : decode cX7_end 0 = .ok (.aload_n 0, 1) := by decide +kernel
theorem dX7_end_1 : decode cX7_end 1 = .ok (.getfield 42, 3) := by decide +kernel
theorem dX7_end_4 : decode cX7_end 4 = .ok (.iload_n 1, 1) := by decide +kernel
theorem dX7_end_5 : decode cX7_end 5 = .ok (.invokevirtual 159, 3) := by decide +kernel
theorem dX7_end_8 : decode cX7_end 8 = .ok (.ifCond .eq 7, 3) := by decide +kernel
theorem dX7_end_11 : decode cX7_end 11 = .ok (.iload_n 1, 1) := by decide +kernel
theorem dX7_end_12 : decode cX7_end 12 = .ok (.goto 4, 3) := by decide +kernel
theorem dX7_end_15 : decode cX7_end 15 = .ok (.iconst (-1), 1) := by decide +kernel
theorem dX7_end_16 : decode cX7_end 16 = .ok (.ireturn, 1) := by decide +kernel
set_option maxRecDepth 20000 in
theorem ggX7_open_X7_isOver : GoodIn wsX7_open wsX7_isOver := goodIn_sl _ [(9, 2), (135, 8)] rfl (by decide +kernel)
set_option maxRecDepth 20000 in
theorem gX7_open_X7_isOver : GoodIn wsX7_open (wsV RX7 68 RX7 yX7_isOver wsX7_isOver) := goodIn_app (goodIn_of _ (by decide +kernel)) ggX7_open_X7_isOver
set_option maxRecDepth 20000 in
theorem ggX7_open_X5_read : GoodIn wsX7_open wsX5_read := goodIn_sl _ [(14, 13), (12, 1), (27, 93), (156, 7)] rfl (by decide +kernel)
set_option maxRecDepth 20000 in
theorem gX7_open_X5_read_n169 : GoodIn wsX7_open (wsX5_read) := ggX7_open_X5_read
set_option maxRecDepth 20000 in
theorem ggX7_open_X6_cutTo : GoodIn wsX7_open wsX6_cutTo := goodIn_sl _ [(122, 1), (32, 1), (161, 2)] rfl (by decide +kernel)
set_option maxRecDepth 20000 in
theorem gX7_open_X6_cutTo_n159 : GoodIn wsX7_open (wsX6_cutTo) := ggX7_open_X6_cutTo
set_option maxRecDepth 20000 in
theorem ggX7_open_X1_begin : GoodIn wsX7_open wsX1_begin := goodIn_sl _ [(126, 9), (143, 8)] rfl (by decide +kernel)
set_option maxRecDepth 20000 in
theorem gX7_open_X1_begin_n172 : GoodIn wsX7_open (wsX1_begin) := ggX7_open_X1_begin
theorem dX7_open_0 : decode cX7_open 0 = .ok (.aload_n 0, 1) := by decide +kernel
theorem dX7_open_1 : decode cX7_open 1 = .ok (.invokevirtual 68, 3) := by decide +kernel
theorem dX7_open_4 : decode cX7_open 4 = .ok (.ifCond .ne 25, 3) := by decide +kernel
theorem dX7_open_7 : decode cX7_open 7 = .ok (.aload_n 0, 1) := by decide +kernel
theorem dX7_open_8 : decode cX7_open 8 = .ok (.getfield 60, 3) := by decide +kernel
theorem dX7_open_11 : decode cX7_open 11 = .ok (.getfield 162, 3) := by decide +kernel
theorem dX7_open_14 : decode cX7_open 14 = .ok (.ifCond .ne 15, 3) := by decide +kernel
theorem dX7_open_17 : decode cX7_open 17 = .ok (.aload_n 0, 1) := by decide +kernel
theorem dX7_open_18 : decode cX7_open 18 = .ok (.getfield 19, 3) := by decide +kernel
theorem dX7_open_21 : decode cX7_open 21 = .ok (.getfield 166, 3) := by decide +kernel
theorem dX7_open_24 : decode cX7_open 24 = .ok (.bipush 10, 2) := by decide +kernel
theorem dX7_open_26 : decode cX7_open 26 = .ok (.if_icmp .ne 5, 3) := by decide +kernel
theorem dX7_open_29 : decode cX7_open 29 = .ok (.iconst (-1), 1) := by decide +kernel
theorem dX7_open_30 : decode cX7_open 30 = .ok (.ireturn, 1) := by decide +kernel
theorem dX7_open_31 : decode cX7_open 31 = .ok (.aload_n 0, 1) := by decide +kernel
theorem dX7_open_32 : decode cX7_open 32 = .ok (.getfield 51, 3) := by decide +kernel
theorem dX7_open_35 : decode cX7_open 35 = .ok (.invokevirtual 169, 3) := by decide +kernel
theorem dX7_open_38 : decode cX7_open 38 = .ok (.istore_n 1, 1) := by decide +kernel
theorem dX7_open_39 : decode cX7_open 39 = .ok (.aload_n 0, 1) := by decide +kernel
theorem dX7_open_40 : decode cX7_open 40 = .ok (.getfield 42, 3) := by decide +kernel
theorem dX7_open_43 : decode cX7_open 43 = .ok (.iconst 0, 1) := by decide +kernel
theorem dX7_open_44 : decode cX7_open 44 = .ok (.invokevirtual 159, 3) := by decide +kernel
theorem dX7_open_47 : decode cX7_open 47 = .ok (.pop, 1) := by decide +kernel
theorem dX7_open_48 : decode cX7_open 48 = .ok (.iload_n 1, 1) := by decide +kernel
theorem dX7_open_49 : decode cX7_open 49 = .ok (.ifCond .eq 8, 3) := by decide +kernel
theorem dX7_open_52 : decode cX7_open 52 = .ok (.bipush (-2), 2) := by decide +kernel
theorem dX7_open_54 : decode cX7_open 54 = .ok (.iload_n 1, 1) := by decide +kernel
theorem dX7_open_55 : decode cX7_open 55 = .ok (.isub, 1) := by decide +kernel
theorem dX7_open_56 : decode cX7_open 56 = .ok (.ireturn, 1) := by decide +kernel
theorem dX7_open_57 : decode cX7_open 57 = .ok (.aload_n 0, 1) := by decide +kernel
theorem dX7_open_58 : decode cX7_open 58 = .ok (.getfield 60, 3) := by decide +kernel
theorem dX7_open_61 : decode cX7_open 61 = .ok (.invokevirtual 172, 3) := by decide +kernel
theorem dX7_open_64 : decode cX7_open 64 = .ok (.iconst 0, 1) := by decide +kernel
theorem dX7_open_65 : decode cX7_open 65 = .ok (.ireturn, 1) := by decide +kernel
set_option maxRecDepth 20000 in
theorem ggX7_votes_X7_isOver : GoodIn wsX7_votes wsX7_isOver := goodIn_sl _ [(7, 2), (25, 8)] rfl (by decide +kernel)
set_option maxRecDepth 20000 in
theorem gX7_votes_X7_isOver : GoodIn wsX7_votes (wsV RX7 68 RX7 yX7_isOver wsX7_isOver) := goodIn_app (goodIn_of _ (by decide +kernel)) ggX7_votes_X7_isOver
set_option maxRecDepth 20000 in
theorem ggX7_votes_X2_isThere : GoodIn wsX7_votes wsX2_isThere := goodIn_sl _ [(12, 5), (10, 1), (17, 2), (41, 12)] rfl (by decide +kernel)
set_option maxRecDepth 20000 in
theorem gX7_votes_X2_isThere_n91 : GoodIn wsX7_votes (wsX2_isThere) := ggX7_votes_X2_isThere
set_option maxRecDepth 20000 in
theorem ggX7_votes_X1_cast : GoodIn wsX7_votes wsX1_cast := goodIn_sl _ [(22, 3), (33, 8)] rfl (by decide +kernel)
set_option maxRecDepth 20000 in
theorem gX7_votes_X1_cast_n175 : GoodIn wsX7_votes (wsX1_cast) := ggX7_votes_X1_cast
theorem dX7_votes_0 : decode cX7_votes 0 = .ok (.aload_n 0, 1) := by decide +kernel
theorem dX7_votes_1 : decode cX7_votes 1 = .ok (.invokevirtual 68, 3) := by decide +kernel
theorem dX7_votes_4 : decode cX7_votes 4 = .ok (.ifCond .ne 24, 3) := by decide +kernel
theorem dX7_votes_7 : decode cX7_votes 7 = .ok (.aload_n 0, 1) := by decide +kernel
theorem dX7_votes_8 : decode cX7_votes 8 = .ok (.getfield 60, 3) := by decide +kernel
theorem dX7_votes_11 : decode cX7_votes 11 = .ok (.getfield 162, 3) := by decide +kernel
theorem dX7_votes_14 : decode cX7_votes 14 = .ok (.ifCond .eq 14, 3) := by decide +kernel
theorem dX7_votes_17 : decode cX7_votes 17 = .ok (.aload_n 0, 1) := by decide +kernel
theorem dX7_votes_18 : decode cX7_votes 18 = .ok (.getfield 10, 3) := by decide +kernel
theorem dX7_votes_21 : decode cX7_votes 21 = .ok (.iload_n 1, 1) := by decide +kernel
theorem dX7_votes_22 : decode cX7_votes 22 = .ok (.invokevirtual 91, 3) := by decide +kernel
theorem dX7_votes_25 : decode cX7_votes 25 = .ok (.ifCond .ne 5, 3) := by decide +kernel
theorem dX7_votes_28 : decode cX7_votes 28 = .ok (.iconst 0, 1) := by decide +kernel
theorem dX7_votes_29 : decode cX7_votes 29 = .ok (.ireturn, 1) := by decide +kernel
theorem dX7_votes_30 : decode cX7_votes 30 = .ok (.aload_n 0, 1) := by decide +kernel
theorem dX7_votes_31 : decode cX7_votes 31 = .ok (.getfield 60, 3) := by decide +kernel
theorem dX7_votes_34 : decode cX7_votes 34 = .ok (.iload_n 1, 1) := by decide +kernel
theorem dX7_votes_35 : decode cX7_votes 35 = .ok (.iload_n 2, 1) := by decide +kernel
theorem dX7_votes_36 : decode cX7_votes 36 = .ok (.invokevirtual 175, 3) := by decide +kernel
theorem dX7_votes_39 : decode cX7_votes 39 = .ok (.iconst 1, 1) := by decide +kernel
theorem dX7_votes_40 : decode cX7_votes 40 = .ok (.ireturn, 1) := by decide +kernel
set_option maxRecDepth 20000 in
theorem ggX7_gives_X7_isOver : GoodIn wsX7_gives wsX7_isOver := goodIn_sl _ [(6, 2), (50, 8)] rfl (by decide +kernel)
set_option maxRecDepth 20000 in
theorem gX7_gives_X7_isOver : GoodIn wsX7_gives (wsV RX7 68 RX7 yX7_isOver wsX7_isOver) := goodIn_app (goodIn_of _ (by decide +kernel)) ggX7_gives_X7_isOver
set_option maxRecDepth 20000 in
theorem ggX7_gives_X7_inForceNow : GoodIn wsX7_gives wsX7_inForceNow := goodIn_sl _ [(11, 2), (7, 1), (13, 16), (50, 8), (66, 5)] rfl (by decide +kernel)
set_option maxRecDepth 20000 in
theorem gX7_gives_X7_inForceNow : GoodIn wsX7_gives (wsV RX7 179 RX7 yX7_inForceNow wsX7_inForceNow) := goodIn_app (goodIn_of _ (by decide +kernel)) ggX7_gives_X7_inForceNow
set_option maxRecDepth 20000 in
theorem ggX7_gives_X1_handOver : GoodIn wsX7_gives wsX1_handOver := goodIn_sl _ [(32, 17), (30, 1), (49, 1), (58, 8), (71, 12)] rfl (by decide +kernel)
set_option maxRecDepth 20000 in
theorem gX7_gives_X1_handOver_n182 : GoodIn wsX7_gives (wsX1_handOver) := ggX7_gives_X1_handOver
theorem dX7_gives_0 : decode cX7_gives 0 = .ok (.aload_n 0, 1) := by decide +kernel
theorem dX7_gives_1 : decode cX7_gives 1 = .ok (.invokevirtual 68, 3) := by decide +kernel
theorem dX7_gives_4 : decode cX7_gives 4 = .ok (.ifCond .ne 13, 3) := by decide +kernel
theorem dX7_gives_7 : decode cX7_gives 7 = .ok (.aload_n 0, 1) := by decide +kernel
theorem dX7_gives_8 : decode cX7_gives 8 = .ok (.getfield 60, 3) := by decide +kernel
theorem dX7_gives_11 : decode cX7_gives 11 = .ok (.getfield 162, 3) := by decide +kernel
theorem dX7_gives_14 : decode cX7_gives 14 = .ok (.ifCond .ne 5, 3) := by decide +kernel
theorem dX7_gives_17 : decode cX7_gives 17 = .ok (.iconst 0, 1) := by decide +kernel
theorem dX7_gives_18 : decode cX7_gives 18 = .ok (.ireturn, 1) := by decide +kernel
theorem dX7_gives_19 : decode cX7_gives 19 = .ok (.aload_n 0, 1) := by decide +kernel
theorem dX7_gives_20 : decode cX7_gives 20 = .ok (.getfield 60, 3) := by decide +kernel
theorem dX7_gives_23 : decode cX7_gives 23 = .ok (.iload_n 1, 1) := by decide +kernel
theorem dX7_gives_24 : decode cX7_gives 24 = .ok (.iload_n 2, 1) := by decide +kernel
theorem dX7_gives_25 : decode cX7_gives 25 = .ok (.aload_n 0, 1) := by decide +kernel
theorem dX7_gives_26 : decode cX7_gives 26 = .ok (.iconst 5, 1) := by decide +kernel
theorem dX7_gives_27 : decode cX7_gives 27 = .ok (.invokevirtual 179, 3) := by decide +kernel
theorem dX7_gives_30 : decode cX7_gives 30 = .ok (.invokevirtual 182, 3) := by decide +kernel
theorem dX7_gives_33 : decode cX7_gives 33 = .ok (.ireturn, 1) := by decide +kernel
set_option maxRecDepth 20000 in
theorem ggX7_close_X7_isOver : GoodIn wsX7_close wsX7_isOver := goodIn_sl _ [(9, 1), (4, 1), (69, 8)] rfl (by decide +kernel)
set_option maxRecDepth 20000 in
theorem gX7_close_X7_isOver : GoodIn wsX7_close (wsV RX7 68 RX7 yX7_isOver wsX7_isOver) := goodIn_app (goodIn_of _ (by decide +kernel)) ggX7_close_X7_isOver
set_option maxRecDepth 20000 in
theorem ggX7_close_X7_isDay : GoodIn wsX7_close wsX7_isDay := goodIn_sl _ [(12, 1)] rfl (by decide +kernel)
set_option maxRecDepth 20000 in
theorem gX7_close_X7_isDay : GoodIn wsX7_close (va_wsS RX7 116 yX7_isDay wsX7_isDay) := goodIn_app (goodIn_of _ (by decide +kernel)) ggX7_close_X7_isDay
set_option maxRecDepth 20000 in
theorem ggX7_close_X7_inForceNow : GoodIn wsX7_close wsX7_inForceNow := goodIn_sl _ [(16, 1), (2, 1), (4, 1), (17, 16), (69, 8), (90, 5)] rfl (by decide +kernel)
set_option maxRecDepth 20000 in
theorem gX7_close_X7_inForceNow : GoodIn wsX7_close (wsV RX7 179 RX7 yX7_inForceNow wsX7_inForceNow) := goodIn_app (goodIn_of _ (by decide +kernel)) ggX7_close_X7_inForceNow
set_option maxRecDepth 20000 in
theorem ggX7_close_X1_finish : GoodIn wsX7_close wsX1_finish := goodIn_sl _ [(36, 8), (34, 1), (44, 18), (77, 8), (95, 12)] rfl (by decide +kernel)
set_option maxRecDepth 20000 in
theorem gX7_close_X1_finish_n185 : GoodIn wsX7_close (wsX1_finish) := ggX7_close_X1_finish
set_option maxRecDepth 20000 in
theorem ggX7_close_X0_make : GoodIn wsX7_close wsX0_make := goodIn_sl _ [(64, 1), (21, 1), (32, 1), (65, 4), (23, 1), (22, 1), (90, 5)] rfl (by decide +kernel)
set_option maxRecDepth 20000 in
theorem gX7_close_X0_make_n192 : GoodIn wsX7_close (wsX0_make) := ggX7_close_X0_make
theorem dX7_close_0 : decode cX7_close 0 = .ok (.aload_n 0, 1) := by decide +kernel
theorem dX7_close_1 : decode cX7_close 1 = .ok (.invokevirtual 68, 3) := by decide +kernel
theorem dX7_close_4 : decode cX7_close 4 = .ok (.ifCond .ne 20, 3) := by decide +kernel
theorem dX7_close_7 : decode cX7_close 7 = .ok (.aload_n 0, 1) := by decide +kernel
theorem dX7_close_8 : decode cX7_close 8 = .ok (.getfield 60, 3) := by decide +kernel
theorem dX7_close_11 : decode cX7_close 11 = .ok (.getfield 162, 3) := by decide +kernel
theorem dX7_close_14 : decode cX7_close 14 = .ok (.ifCond .eq 10, 3) := by decide +kernel
theorem dX7_close_17 : decode cX7_close 17 = .ok (.iload_n 1, 1) := by decide +kernel
theorem dX7_close_18 : decode cX7_close 18 = .ok (.invokestatic 116, 3) := by decide +kernel
theorem dX7_close_21 : decode cX7_close 21 = .ok (.ifCond .ne 5, 3) := by decide +kernel
theorem dX7_close_24 : decode cX7_close 24 = .ok (.iconst (-1), 1) := by decide +kernel
theorem dX7_close_25 : decode cX7_close 25 = .ok (.ireturn, 1) := by decide +kernel
theorem dX7_close_26 : decode cX7_close 26 = .ok (.aload_n 0, 1) := by decide +kernel
theorem dX7_close_27 : decode cX7_close 27 = .ok (.getfield 60, 3) := by decide +kernel
theorem dX7_close_30 : decode cX7_close 30 = .ok (.aload_n 0, 1) := by decide +kernel
theorem dX7_close_31 : decode cX7_close 31 = .ok (.iconst 4, 1) := by decide +kernel
theorem dX7_close_32 : decode cX7_close 32 = .ok (.invokevirtual 179, 3) := by decide +kernel
theorem dX7_close_35 : decode cX7_close 35 = .ok (.invokevirtual 185, 3) := by decide +kernel
theorem dX7_close_38 : decode cX7_close 38 = .ok (.istore_n 2, 1) := by decide +kernel
theorem dX7_close_39 : decode cX7_close 39 = .ok (.iload_n 2, 1) := by decide +kernel
theorem dX7_close_40 : decode cX7_close 40 = .ok (.ifCond .eq 25, 3) := by decide +kernel
theorem dX7_close_43 : decode cX7_close 43 = .ok (.aload_n 0, 1) := by decide +kernel
theorem dX7_close_44 : decode cX7_close 44 = .ok (.getfield 19, 3) := by decide +kernel
theorem dX7_close_47 : decode cX7_close 47 = .ok (.aload_n 0, 1) := by decide +kernel
theorem dX7_close_48 : decode cX7_close 48 = .ok (.getfield 51, 3) := by decide +kernel
theorem dX7_close_51 : decode cX7_close 51 = .ok (.getfield 188, 3) := by decide +kernel
theorem dX7_close_54 : decode cX7_close 54 = .ok (.iload_n 1, 1) := by decide +kernel
theorem dX7_close_55 : decode cX7_close 55 = .ok (.aload_n 0, 1) := by decide +kernel
theorem dX7_close_56 : decode cX7_close 56 = .ok (.getfield 64, 3) := by decide +kernel
theorem dX7_close_59 : decode cX7_close 59 = .ok (.invokevirtual 192, 3) := by decide +kernel
theorem dX7_close_62 : decode cX7_close 62 = .ok (.goto 5, 3) := by decide +kernel
theorem dX7_close_65 : decode cX7_close 65 = .ok (.bipush (-2), 2) := by decide +kernel
theorem dX7_close_67 : decode cX7_close 67 = .ok (.ireturn, 1) := by decide +kernel
set_option maxRecDepth 20000 in
theorem ggX7_undo_X7_isOver : GoodIn wsX7_undo wsX7_isOver := goodIn_sl _ [(7, 1), (2, 1), (14, 8)] rfl (by decide +kernel)
set_option maxRecDepth 20000 in
theorem gX7_undo_X7_isOver : GoodIn wsX7_undo (wsV RX7 68 RX7 yX7_isOver wsX7_isOver) := goodIn_app (goodIn_of _ (by decide +kernel)) ggX7_undo_X7_isOver
set_option maxRecDepth 20000 in
theorem ggX7_undo_X0_strike : GoodIn wsX7_undo wsX0_strike := goodIn_sl _ [(11, 3), (22, 5)] rfl (by decide +kernel)
set_option maxRecDepth 20000 in
theorem gX7_undo_X0_strike_n196 : GoodIn wsX7_undo (wsX0_strike) := ggX7_undo_X0_strike
theorem dX7_undo_0 : decode cX7_undo 0 = .ok (.aload_n 0, 1) := by decide +kernel
theorem dX7_undo_1 : decode cX7_undo 1 = .ok (.invokevirtual 68, 3) := by decide +kernel
theorem dX7_undo_4 : decode cX7_undo 4 = .ok (.ifCond .ne 22, 3) := by decide +kernel
theorem dX7_undo_7 : decode cX7_undo 7 = .ok (.aload_n 0, 1) := by decide +kernel
theorem dX7_undo_8 : decode cX7_undo 8 = .ok (.getfield 19, 3) := by decide +kernel
theorem dX7_undo_11 : decode cX7_undo 11 = .ok (.iload_n 1, 1) := by decide +kernel
theorem dX7_undo_12 : decode cX7_undo 12 = .ok (.aload_n 0, 1) := by decide +kernel
theorem dX7_undo_13 : decode cX7_undo 13 = .ok (.getfield 64, 3) := by decide +kernel
theorem dX7_undo_16 : decode cX7_undo 16 = .ok (.invokevirtual 196, 3) := by decide +kernel
theorem dX7_undo_19 : decode cX7_undo 19 = .ok (.ifCond .eq 7, 3) := by decide +kernel
theorem dX7_undo_22 : decode cX7_undo 22 = .ok (.iconst 1, 1) := by decide +kernel
theorem dX7_undo_23 : decode cX7_undo 23 = .ok (.goto 4, 3) := by decide +kernel
theorem dX7_undo_26 : decode cX7_undo 26 = .ok (.iconst 0, 1) := by decide +kernel
theorem dX7_undo_27 : decode cX7_undo 27 = .ok (.ireturn, 1) := by decide +kernel
set_option maxRecDepth 20000 in
theorem ggX7_holds_X7_isDay : GoodIn wsX7_holds wsX7_isDay := goodIn_sl _ [(5, 1)] rfl (by decide +kernel)
set_option maxRecDepth 20000 in
theorem gX7_holds_X7_isDay : GoodIn wsX7_holds (va_wsS RX7 116 yX7_isDay wsX7_isDay) := goodIn_app (goodIn_of _ (by decide +kernel)) ggX7_holds_X7_isDay
set_option maxRecDepth 20000 in
theorem ggX7_holds_X0_inForce : GoodIn wsX7_holds wsX0_inForce := goodIn_sl _ [(9, 7), (7, 1), (16, 2), (30, 5)] rfl (by decide +kernel)
set_option maxRecDepth 20000 in
theorem gX7_holds_X0_inForce_n199 : GoodIn wsX7_holds (wsX0_inForce) := ggX7_holds_X0_inForce
set_option maxRecDepth 20000 in
theorem ggX7_holds_X0_number : GoodIn wsX7_holds wsX0_number := goodIn_sl _ [(20, 2), (30, 5)] rfl (by decide +kernel)
set_option maxRecDepth 20000 in
theorem gX7_holds_X0_number_n202 : GoodIn wsX7_holds (wsX0_number) := ggX7_holds_X0_number
theorem dX7_holds_0 : decode cX7_holds 0 = .ok (.iload_n 1, 1) := by decide +kernel
theorem dX7_holds_1 : decode cX7_holds 1 = .ok (.invokestatic 116, 3) := by decide +kernel
theorem dX7_holds_4 : decode cX7_holds 4 = .ok (.ifCond .eq 10, 3) := by decide +kernel
theorem dX7_holds_7 : decode cX7_holds 7 = .ok (.iload_n 2, 1) := by decide +kernel
theorem dX7_holds_8 : decode cX7_holds 8 = .ok (.invokestatic 116, 3) := by decide +kernel
theorem dX7_holds_11 : decode cX7_holds 11 = .ok (.ifCond .ne 5, 3) := by decide +kernel
theorem dX7_holds_14 : decode cX7_holds 14 = .ok (.iconst (-1), 1) := by decide +kernel
theorem dX7_holds_15 : decode cX7_holds 15 = .ok (.ireturn, 1) := by decide +kernel
theorem dX7_holds_16 : decode cX7_holds 16 = .ok (.aload_n 0, 1) := by decide +kernel
theorem dX7_holds_17 : decode cX7_holds 17 = .ok (.getfield 19, 3) := by decide +kernel
theorem dX7_holds_20 : decode cX7_holds 20 = .ok (.iload_n 1, 1) := by decide +kernel
theorem dX7_holds_21 : decode cX7_holds 21 = .ok (.iload_n 2, 1) := by decide +kernel
theorem dX7_holds_22 : decode cX7_holds 22 = .ok (.invokevirtual 199, 3) := by decide +kernel
theorem dX7_holds_25 : decode cX7_holds 25 = .ok (.istore 4, 2) := by decide +kernel
theorem dX7_holds_27 : decode cX7_holds 27 = .ok (.iload_n 3, 1) := by decide +kernel
theorem dX7_holds_28 : decode cX7_holds 28 = .ok (.ifCond .lt 19, 3) := by decide +kernel
theorem dX7_holds_31 : decode cX7_holds 31 = .ok (.iload_n 3, 1) := by decide +kernel
theorem dX7_holds_32 : decode cX7_holds 32 = .ok (.iconst 5, 1) := by decide +kernel
theorem dX7_holds_33 : decode cX7_holds 33 = .ok (.if_icmp .gt 14, 3) := by decide +kernel
theorem dX7_holds_36 : decode cX7_holds 36 = .ok (.aload_n 0, 1) := by decide +kernel
theorem dX7_holds_37 : decode cX7_holds 37 = .ok (.getfield 19, 3) := by decide +kernel
theorem dX7_holds_40 : decode cX7_holds 40 = .ok (.iload 4, 2) := by decide +kernel
theorem dX7_holds_42 : decode cX7_holds 42 = .ok (.iload_n 3, 1) := by decide +kernel
theorem dX7_holds_43 : decode cX7_holds 43 = .ok (.invokevirtual 202, 3) := by decide +kernel
theorem dX7_holds_46 : decode cX7_holds 46 = .ok (.ireturn, 1) := by decide +kernel
theorem dX7_holds_47 : decode cX7_holds 47 = .ok (.iload_n 3, 1) := by decide +kernel
theorem dX7_holds_48 : decode cX7_holds 48 = .ok (.bipush 10, 2) := by decide +kernel
theorem dX7_holds_50 : decode cX7_holds 50 = .ok (.if_icmp .lt 26, 3) := by decide +kernel
theorem dX7_holds_53 : decode cX7_holds 53 = .ok (.iload_n 3, 1) := by decide +kernel
theorem dX7_holds_54 : decode cX7_holds 54 = .ok (.bipush 17, 2) := by decide +kernel
theorem dX7_holds_56 : decode cX7_holds 56 = .ok (.if_icmp .ge 20, 3) := by decide +kernel
theorem dX7_holds_59 : decode cX7_holds 59 = .ok (.aload_n 0, 1) := by decide +kernel
theorem dX7_holds_60 : decode cX7_holds 60 = .ok (.getfield 19, 3) := by decide +kernel
theorem dX7_holds_63 : decode cX7_holds 63 = .ok (.iload 4, 2) := by decide +kernel
theorem dX7_holds_65 : decode cX7_holds 65 = .ok (.bipush 6, 2) := by decide +kernel
theorem dX7_holds_67 : decode cX7_holds 67 = .ok (.iload_n 3, 1) := by decide +kernel
theorem dX7_holds_68 : decode cX7_holds 68 = .ok (.iadd, 1) := by decide +kernel
theorem dX7_holds_69 : decode cX7_holds 69 = .ok (.bipush 10, 2) := by decide +kernel
theorem dX7_holds_71 : decode cX7_holds 71 = .ok (.isub, 1) := by decide +kernel
theorem dX7_holds_72 : decode cX7_holds 72 = .ok (.invokevirtual 202, 3) := by decide +kernel
theorem dX7_holds_75 : decode cX7_holds 75 = .ok (.ireturn, 1) := by decide +kernel
theorem dX7_holds_76 : decode cX7_holds 76 = .ok (.iload_n 3, 1) := by decide +kernel
theorem dX7_holds_77 : decode cX7_holds 77 = .ok (.bipush 6, 2) := by decide +kernel
theorem dX7_holds_79 : decode cX7_holds 79 = .ok (.if_icmp .ne 8, 3) := by decide +kernel
theorem dX7_holds_82 : decode cX7_holds 82 = .ok (.iload 4, 2) := by decide +kernel
theorem dX7_holds_84 : decode cX7_holds 84 = .ok (.goto 4, 3) := by decide +kernel
theorem dX7_holds_87 : decode cX7_holds 87 = .ok (.iconst (-1), 1) := by decide +kernel
theorem dX7_holds_88 : decode cX7_holds 88 = .ok (.ireturn, 1) := by decide +kernel
set_option maxRecDepth 20000 in
theorem ggX7_vote_X1_tell : GoodIn wsX7_vote wsX1_tell := goodIn_sl _ [(5, 9), (3, 1), (14, 18), (40, 20)] rfl (by decide +kernel)
set_option maxRecDepth 20000 in
theorem gX7_vote_X1_tell_n205 : GoodIn wsX7_vote (wsX1_tell) := ggX7_vote_X1_tell
theorem dX7_vote_0 : decode cX7_vote 0 = .ok (.aload_n 0, 1) := by decide +kernel
theorem dX7_vote_1 : decode cX7_vote 1 = .ok (.getfield 60, 3) := by decide +kernel
theorem dX7_vote_4 : decode cX7_vote 4 = .ok (.iload_n 1, 1) := by decide +kernel
theorem dX7_vote_5 : decode cX7_vote 5 = .ok (.invokevirtual 205, 3) := by decide +kernel
theorem dX7_vote_8 : decode cX7_vote 8 = .ok (.ireturn, 1) := by decide +kernel
set_option maxRecDepth 20000 in
theorem ggX7_about_X2_hasCanon : GoodIn wsX7_about wsX2_hasCanon := goodIn_sl _ [(6, 2), (21, 12)] rfl (by decide +kernel)
set_option maxRecDepth 20000 in
theorem gX7_about_X2_hasCanon_n80 : GoodIn wsX7_about (wsX2_hasCanon) := ggX7_about_X2_hasCanon
set_option maxRecDepth 20000 in
theorem ggX7_about_X2_isThere : GoodIn wsX7_about wsX2_isThere := goodIn_sl _ [(10, 3), (3, 1), (5, 1), (4, 1), (6, 2), (21, 12)] rfl (by decide +kernel)
set_option maxRecDepth 20000 in
theorem gX7_about_X2_isThere_n91 : GoodIn wsX7_about (wsX2_isThere) := ggX7_about_X2_isThere
theorem dX7_about_0 : decode cX7_about 0 = .ok (.aload_n 0, 1) := by decide +kernel
theorem dX7_about_1 : decode cX7_about 1 = .ok (.getfield 10, 3) := by decide +kernel
theorem dX7_about_4 : decode cX7_about 4 = .ok (.iload_n 1, 1) := by decide +kernel
theorem dX7_about_5 : decode cX7_about 5 = .ok (.invokevirtual 80, 3) := by decide +kernel
theorem dX7_about_8 : decode cX7_about 8 = .ok (.ifCond .ne 5, 3) := by decide +kernel
theorem dX7_about_11 : decode cX7_about 11 = .ok (.iconst (-1), 1) := by decide +kernel
theorem dX7_about_12 : decode cX7_about 12 = .ok (.ireturn, 1) := by decide +kernel
theorem dX7_about_13 : decode cX7_about 13 = .ok (.iload_n 2, 1) := by decide +kernel
theorem dX7_about_14 : decode cX7_about 14 = .ok (.tableswitch 77 0 3 #[30, 47, 57, 67], 30) := by decide +kernel
theorem dX7_about_44 : decode cX7_about 44 = .ok (.aload_n 0, 1) := by decide +kernel
theorem dX7_about_45 : decode cX7_about 45 = .ok (.getfield 10, 3) := by decide +kernel
theorem dX7_about_48 : decode cX7_about 48 = .ok (.iload_n 1, 1) := by decide +kernel
theorem dX7_about_49 : decode cX7_about 49 = .ok (.invokevirtual 91, 3) := by decide +kernel
theorem dX7_about_52 : decode cX7_about 52 = .ok (.ifCond .eq 7, 3) := by decide +kernel
theorem dX7_about_55 : decode cX7_about 55 = .ok (.iconst 1, 1) := by decide +kernel
theorem dX7_about_56 : decode cX7_about 56 = .ok (.goto 4, 3) := by decide +kernel
theorem dX7_about_59 : decode cX7_about 59 = .ok (.iconst 0, 1) := by decide +kernel
theorem dX7_about_60 : decode cX7_about 60 = .ok (.ireturn, 1) := by decide +kernel
theorem dX7_about_61 : decode cX7_about 61 = .ok (.aload_n 0, 1) := by decide +kernel
theorem dX7_about_62 : decode cX7_about 62 = .ok (.getfield 10, 3) := by decide +kernel
theorem dX7_about_65 : decode cX7_about 65 = .ok (.getfield 208, 3) := by decide +kernel
theorem dX7_about_68 : decode cX7_about 68 = .ok (.iload_n 1, 1) := by decide +kernel
theorem dX7_about_69 : decode cX7_about 69 = .ok (.iaload, 1) := by decide +kernel
theorem dX7_about_70 : decode cX7_about 70 = .ok (.ireturn, 1) := by decide +kernel
theorem dX7_about_71 : decode cX7_about 71 = .ok (.aload_n 0, 1) := by decide +kernel
theorem dX7_about_72 : decode cX7_about 72 = .ok (.getfield 35, 3) := by decide +kernel
theorem dX7_about_75 : decode cX7_about 75 = .ok (.getfield 211, 3) := by decide +kernel
theorem dX7_about_78 : decode cX7_about 78 = .ok (.iload_n 1, 1) := by decide +kernel
theorem dX7_about_79 : decode cX7_about 79 = .ok (.iaload, 1) := by decide +kernel
theorem dX7_about_80 : decode cX7_about 80 = .ok (.ireturn, 1) := by decide +kernel
theorem dX7_about_81 : decode cX7_about 81 = .ok (.aload_n 0, 1) := by decide +kernel
theorem dX7_about_82 : decode cX7_about 82 = .ok (.getfield 35, 3) := by decide +kernel
theorem dX7_about_85 : decode cX7_about 85 = .ok (.getfield 214, 3) := by decide +kernel
theorem dX7_about_88 : decode cX7_about 88 = .ok (.iload_n 1, 1) := by decide +kernel
theorem dX7_about_89 : decode cX7_about 89 = .ok (.iaload, 1) := by decide +kernel
theorem dX7_about_90 : decode cX7_about 90 = .ok (.ireturn, 1) := by decide +kernel
theorem dX7_about_91 : decode cX7_about 91 = .ok (.iconst (-1), 1) := by decide +kernel
theorem dX7_about_92 : decode cX7_about 92 = .ok (.ireturn, 1) := by decide +kernel
set_option maxRecDepth 20000 in
theorem ggX7_count_X2_holderOf : GoodIn wsX7_count wsX2_holderOf := goodIn_sl _ [(10, 5), (8, 1), (15, 2), (25, 12)] rfl (by decide +kernel)
set_option maxRecDepth 20000 in
theorem gX7_count_X2_holderOf_n232 : GoodIn wsX7_count (wsX2_holderOf) := ggX7_count_X2_holderOf
theorem dX7_count_0 : decode cX7_count 0 = .ok (.iload_n 1, 1) := by decide +kernel
theorem dX7_count_1 : decode cX7_count 1 = .ok (.tableswitch 108 0 7 #[47, 52, 60, 68, 76, 84, 92, 100], 47) := by decide +kernel
theorem dX7_count_48 : decode cX7_count 48 = .ok (.aload_n 0, 1) := by decide +kernel
theorem dX7_count_49 : decode cX7_count 49 = .ok (.getfield 64, 3) := by decide +kernel
theorem dX7_count_52 : decode cX7_count 52 = .ok (.ireturn, 1) := by decide +kernel
theorem dX7_count_53 : decode cX7_count 53 = .ok (.aload_n 0, 1) := by decide +kernel
theorem dX7_count_54 : decode cX7_count 54 = .ok (.getfield 10, 3) := by decide +kernel
theorem dX7_count_57 : decode cX7_count 57 = .ok (.getfield 217, 3) := by decide +kernel
theorem dX7_count_60 : decode cX7_count 60 = .ok (.ireturn, 1) := by decide +kernel
theorem dX7_count_61 : decode cX7_count 61 = .ok (.aload_n 0, 1) := by decide +kernel
theorem dX7_count_62 : decode cX7_count 62 = .ok (.getfield 10, 3) := by decide +kernel
theorem dX7_count_65 : decode cX7_count 65 = .ok (.getfield 220, 3) := by decide +kernel
theorem dX7_count_68 : decode cX7_count 68 = .ok (.ireturn, 1) := by decide +kernel
theorem dX7_count_69 : decode cX7_count 69 = .ok (.aload_n 0, 1) := by decide +kernel
theorem dX7_count_70 : decode cX7_count 70 = .ok (.getfield 10, 3) := by decide +kernel
theorem dX7_count_73 : decode cX7_count 73 = .ok (.getfield 223, 3) := by decide +kernel
theorem dX7_count_76 : decode cX7_count 76 = .ok (.ireturn, 1) := by decide +kernel
theorem dX7_count_77 : decode cX7_count 77 = .ok (.aload_n 0, 1) := by decide +kernel
theorem dX7_count_78 : decode cX7_count 78 = .ok (.getfield 26, 3) := by decide +kernel
theorem dX7_count_81 : decode cX7_count 81 = .ok (.getfield 226, 3) := by decide +kernel
theorem dX7_count_84 : decode cX7_count 84 = .ok (.ireturn, 1) := by decide +kernel
theorem dX7_count_85 : decode cX7_count 85 = .ok (.aload_n 0, 1) := by decide +kernel
theorem dX7_count_86 : decode cX7_count 86 = .ok (.getfield 19, 3) := by decide +kernel
theorem dX7_count_89 : decode cX7_count 89 = .ok (.getfield 166, 3) := by decide +kernel
theorem dX7_count_92 : decode cX7_count 92 = .ok (.ireturn, 1) := by decide +kernel
theorem dX7_count_93 : decode cX7_count 93 = .ok (.aload_n 0, 1) := by decide +kernel
theorem dX7_count_94 : decode cX7_count 94 = .ok (.getfield 42, 3) := by decide +kernel
theorem dX7_count_97 : decode cX7_count 97 = .ok (.getfield 156, 3) := by decide +kernel
theorem dX7_count_100 : decode cX7_count 100 = .ok (.ireturn, 1) := by decide +kernel
theorem dX7_count_101 : decode cX7_count 101 = .ok (.aload_n 0, 1) := by decide +kernel
theorem dX7_count_102 : decode cX7_count 102 = .ok (.getfield 35, 3) := by decide +kernel
theorem dX7_count_105 : decode cX7_count 105 = .ok (.getfield 229, 3) := by decide +kernel
theorem dX7_count_108 : decode cX7_count 108 = .ok (.ireturn, 1) := by decide +kernel
theorem dX7_count_109 : decode cX7_count 109 = .ok (.iload_n 1, 1) := by decide +kernel
theorem dX7_count_110 : decode cX7_count 110 = .ok (.bipush 20, 2) := by decide +kernel
theorem dX7_count_112 : decode cX7_count 112 = .ok (.if_icmp .lt 17, 3) := by decide +kernel
theorem dX7_count_115 : decode cX7_count 115 = .ok (.aload_n 0, 1) := by decide +kernel
theorem dX7_count_116 : decode cX7_count 116 = .ok (.getfield 10, 3) := by decide +kernel
theorem dX7_count_119 : decode cX7_count 119 = .ok (.iload_n 1, 1) := by decide +kernel
theorem dX7_count_120 : decode cX7_count 120 = .ok (.bipush 20, 2) := by decide +kernel
theorem dX7_count_122 : decode cX7_count 122 = .ok (.isub, 1) := by decide +kernel
theorem dX7_count_123 : decode cX7_count 123 = .ok (.invokevirtual 232, 3) := by decide +kernel
theorem dX7_count_126 : decode cX7_count 126 = .ok (.goto 4, 3) := by decide +kernel
theorem dX7_count_129 : decode cX7_count 129 = .ok (.iconst (-1), 1) := by decide +kernel
theorem dX7_count_130 : decode cX7_count 130 = .ok (.ireturn, 1) := by decide +kernel
theorem dX7_isOver_0 : decode cX7_isOver 0 = .ok (.aload_n 0, 1) := by decide +kernel
theorem dX7_isOver_1 : decode cX7_isOver 1 = .ok (.getfield 64, 3) := by decide +kernel
theorem dX7_isOver_4 : decode cX7_isOver 4 = .ok (.sipush 400, 3) := by decide +kernel
theorem dX7_isOver_7 : decode cX7_isOver 7 = .ok (.if_icmp .lt 7, 3) := by decide +kernel
theorem dX7_isOver_10 : decode cX7_isOver 10 = .ok (.iconst 1, 1) := by decide +kernel
theorem dX7_isOver_11 : decode cX7_isOver 11 = .ok (.goto 4, 3) := by decide +kernel
theorem dX7_isOver_14 : decode cX7_isOver 14 = .ok (.iconst 0, 1) := by decide +kernel
theorem dX7_isOver_15 : decode cX7_isOver 15 = .ok (.ireturn, 1) := by decide +kernel
set_option maxRecDepth 20000 in
theorem ggX7_isAsked_X2_hasCanon : GoodIn wsX7_isAsked wsX2_hasCanon := goodIn_sl _ [(5, 2), (19, 12)] rfl (by decide +kernel)
set_option maxRecDepth 20000 in
theorem gX7_isAsked_X2_hasCanon_n80 : GoodIn wsX7_isAsked (wsX2_hasCanon) := ggX7_isAsked_X2_hasCanon
set_option maxRecDepth 20000 in
theorem ggX7_isAsked_X7_isDay : GoodIn wsX7_isAsked wsX7_isDay := goodIn_sl _ [(10, 1)] rfl (by decide +kernel)
set_option maxRecDepth 20000 in
theorem gX7_isAsked_X7_isDay : GoodIn wsX7_isAsked (va_wsS RX7 116 yX7_isDay wsX7_isDay) := goodIn_app (goodIn_of _ (by decide +kernel)) ggX7_isAsked_X7_isDay
theorem dX7_isAsked_0 : decode cX7_isAsked 0 = .ok (.aload_n 0, 1) := by decide +kernel
theorem dX7_isAsked_1 : decode cX7_isAsked 1 = .ok (.getfield 10, 3) := by decide +kernel
theorem dX7_isAsked_4 : decode cX7_isAsked 4 = .ok (.iload_n 1, 1) := by decide +kernel
theorem dX7_isAsked_5 : decode cX7_isAsked 5 = .ok (.invokevirtual 80, 3) := by decide +kernel
theorem dX7_isAsked_8 : decode cX7_isAsked 8 = .ok (.ifCond .eq 21, 3) := by decide +kernel
theorem dX7_isAsked_11 : decode cX7_isAsked 11 = .ok (.iload_n 2, 1) := by decide +kernel
theorem dX7_isAsked_12 : decode cX7_isAsked 12 = .ok (.invokestatic 116, 3) := by decide +kernel
theorem dX7_isAsked_15 : decode cX7_isAsked 15 = .ok (.ifCond .eq 14, 3) := by decide +kernel
theorem dX7_isAsked_18 : decode cX7_isAsked 18 = .ok (.iload_n 3, 1) := by decide +kernel
theorem dX7_isAsked_19 : decode cX7_isAsked 19 = .ok (.invokestatic 116, 3) := by decide +kernel
theorem dX7_isAsked_22 : decode cX7_isAsked 22 = .ok (.ifCond .eq 7, 3) := by decide +kernel
theorem dX7_isAsked_25 : decode cX7_isAsked 25 = .ok (.iconst 1, 1) := by decide +kernel
theorem dX7_isAsked_26 : decode cX7_isAsked 26 = .ok (.goto 4, 3) := by decide +kernel
theorem dX7_isAsked_29 : decode cX7_isAsked 29 = .ok (.iconst 0, 1) := by decide +kernel
theorem dX7_isAsked_30 : decode cX7_isAsked 30 = .ok (.ireturn, 1) := by decide +kernel
set_option maxRecDepth 20000 in
theorem ggX7_inForceNow_X0_inForce : GoodIn wsX7_inForceNow wsX0_inForce := goodIn_sl _ [(6, 7), (4, 1), (13, 2), (27, 5)] rfl (by decide +kernel)
set_option maxRecDepth 20000 in
theorem gX7_inForceNow_X0_inForce_n199 : GoodIn wsX7_inForceNow (wsX0_inForce) := ggX7_inForceNow_X0_inForce
set_option maxRecDepth 20000 in
theorem ggX7_inForceNow_X0_number : GoodIn wsX7_inForceNow wsX0_number := goodIn_sl _ [(17, 2), (27, 5)] rfl (by decide +kernel)
set_option maxRecDepth 20000 in
theorem gX7_inForceNow_X0_number_n202 : GoodIn wsX7_inForceNow (wsX0_number) := ggX7_inForceNow_X0_number
theorem dX7_inForceNow_0 : decode cX7_inForceNow 0 = .ok (.aload_n 0, 1) := by decide +kernel
theorem dX7_inForceNow_1 : decode cX7_inForceNow 1 = .ok (.getfield 19, 3) := by decide +kernel
theorem dX7_inForceNow_4 : decode cX7_inForceNow 4 = .ok (.aload_n 0, 1) := by decide +kernel
theorem dX7_inForceNow_5 : decode cX7_inForceNow 5 = .ok (.getfield 19, 3) := by decide +kernel
theorem dX7_inForceNow_8 : decode cX7_inForceNow 8 = .ok (.aload_n 0, 1) := by decide +kernel
theorem dX7_inForceNow_9 : decode cX7_inForceNow 9 = .ok (.getfield 64, 3) := by decide +kernel
theorem dX7_inForceNow_12 : decode cX7_inForceNow 12 = .ok (.aload_n 0, 1) := by decide +kernel
theorem dX7_inForceNow_13 : decode cX7_inForceNow 13 = .ok (.getfield 64, 3) := by decide +kernel
theorem dX7_inForceNow_16 : decode cX7_inForceNow 16 = .ok (.invokevirtual 199, 3) := by decide +kernel
theorem dX7_inForceNow_19 : decode cX7_inForceNow 19 = .ok (.iload_n 1, 1) := by decide +kernel
theorem dX7_inForceNow_20 : decode cX7_inForceNow 20 = .ok (.invokevirtual 202, 3) := by decide +kernel
theorem dX7_inForceNow_23 : decode cX7_inForceNow 23 = .ok (.ireturn, 1) := by decide +kernel
theorem dX7_isDay_0 : decode cX7_isDay 0 = .ok (.iload_n 0, 1) := by decide +kernel
theorem dX7_isDay_1 : decode cX7_isDay 1 = .ok (.ifCond .lt 14, 3) := by decide +kernel
theorem dX7_isDay_4 : decode cX7_isDay 4 = .ok (.iload_n 0, 1) := by decide +kernel
theorem dX7_isDay_5 : decode cX7_isDay 5 = .ok (.sipush 400, 3) := by decide +kernel
theorem dX7_isDay_8 : decode cX7_isDay 8 = .ok (.if_icmp .ge 7, 3) := by decide +kernel
theorem dX7_isDay_11 : decode cX7_isDay 11 = .ok (.iconst 1, 1) := by decide +kernel
theorem dX7_isDay_12 : decode cX7_isDay 12 = .ok (.goto 4, 3) := by decide +kernel
theorem dX7_isDay_15 : decode cX7_isDay 15 = .ok (.iconst 0, 1) := by decide +kernel
theorem dX7_isDay_16 : decode cX7_isDay 16 = .ok (.ireturn, 1) := by decide +kernel
theorem dX7_isHour_0 : decode cX7_isHour 0 = .ok (.iload_n 0, 1) := by decide +kernel
theorem dX7_isHour_1 : decode cX7_isHour 1 = .ok (.ifCond .lt 13, 3) := by decide +kernel
theorem dX7_isHour_4 : decode cX7_isHour 4 = .ok (.iload_n 0, 1) := by decide +kernel
theorem dX7_isHour_5 : decode cX7_isHour 5 = .ok (.bipush 7, 2) := by decide +kernel
theorem dX7_isHour_7 : decode cX7_isHour 7 = .ok (.if_icmp .ge 7, 3) := by decide +kernel
theorem dX7_isHour_10 : decode cX7_isHour 10 = .ok (.iconst 1, 1) := by decide +kernel
theorem dX7_isHour_11 : decode cX7_isHour 11 = .ok (.goto 4, 3) := by decide +kernel
theorem dX7_isHour_14 : decode cX7_isHour 14 = .ok (.iconst 0, 1) := by decide +kernel
theorem dX7_isHour_15 : decode cX7_isHour 15 = .ok (.ireturn, 1) := by decide +kernel

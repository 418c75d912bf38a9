abbrev vwCl : List vw_C := [(RX0, TX0, 5), (RX1, TX1, 8), (RX2, TX2, 12), (RX3, TX3, 9), (RX4, TX4, 7), (RX5, TX5, 5), (RX6, TX6, 2), (RX7, TX7, 8), (RX8, TX8, 51)]
theorem dJ9_max_7cf53_0 : decode cJ9_max_7cf53 0 = .ok (.iload_n 0, 1) := by decide +kernel
theorem dJ9_max_7cf53_1 : decode cJ9_max_7cf53 1 = .ok (.iload_n 1, 1) := by decide +kernel
theorem dJ9_max_7cf53_2 : decode cJ9_max_7cf53 2 = .ok (.if_icmp .lt 7, 3) := by decide +kernel
theorem dJ9_max_7cf53_5 : decode cJ9_max_7cf53 5 = .ok (.iload_n 0, 1) := by decide +kernel
theorem dJ9_max_7cf53_6 : decode cJ9_max_7cf53 6 = .ok (.goto 4, 3) := by decide +kernel
theorem dJ9_max_7cf53_9 : decode cJ9_max_7cf53 9 = .ok (.iload_n 1, 1) := by decide +kernel
theorem dJ9_max_7cf53_10 : decode cJ9_max_7cf53 10 = .ok (.ireturn, 1) := by decide +kernel
theorem dJ9_min_7cf53_0 : decode cJ9_min_7cf53 0 = .ok (.iload_n 0, 1) := by decide +kernel
theorem dJ9_min_7cf53_1 : decode cJ9_min_7cf53 1 = .ok (.iload_n 1, 1) := by decide +kernel
theorem dJ9_min_7cf53_2 : decode cJ9_min_7cf53 2 = .ok (.if_icmp .gt 7, 3) := by decide +kernel
theorem dJ9_min_7cf53_5 : decode cJ9_min_7cf53 5 = .ok (.iload_n 0, 1) := by decide +kernel
theorem dJ9_min_7cf53_6 : decode cJ9_min_7cf53 6 = .ok (.goto 4, 3) := by decide +kernel
theorem dJ9_min_7cf53_9 : decode cJ9_min_7cf53 9 = .ok (.iload_n 1, 1) := by decide +kernel
theorem dJ9_min_7cf53_10 : decode cJ9_min_7cf53 10 = .ok (.ireturn, 1) := by decide +kernel
set_option maxRecDepth 20000 in
theorem ggJ0_length_8abf5_J0_coder_7d493 : GoodIn wsJ0_length_8abf5 wsJ0_coder_7d493 := goodIn_sl _ [(6, 3)] rfl (by decide +kernel)
set_option maxRecDepth 20000 in
theorem gJ0_length_8abf5_J0_coder_7d493 : GoodIn wsJ0_length_8abf5 (wsV RJ0 335 RJ0 yJ0_coder_7d493 wsJ0_coder_7d493) := goodIn_app (goodIn_of _ (by decide +kernel)) ggJ0_length_8abf5_J0_coder_7d493
theorem dJ0_length_8abf5_0 : decode cJ0_length_8abf5 0 = .ok (.aload_n 0, 1) := by decide +kernel
theorem dJ0_length_8abf5_1 : decode cJ0_length_8abf5 1 = .ok (.getfield 9, 3) := by decide +kernel
theorem dJ0_length_8abf5_4 : decode cJ0_length_8abf5 4 = .ok (.arraylength, 1) := by decide +kernel
theorem dJ0_length_8abf5_5 : decode cJ0_length_8abf5 5 = .ok (.aload_n 0, 1) := by decide +kernel
theorem dJ0_length_8abf5_6 : decode cJ0_length_8abf5 6 = .ok (.invokevirtual 335, 3) := by decide +kernel
theorem dJ0_length_8abf5_9 : decode cJ0_length_8abf5 9 = .ok (.ishr, 1) := by decide +kernel
theorem dJ0_length_8abf5_10 : decode cJ0_length_8abf5 10 = .ok (.ireturn, 1) := by decide +kernel
set_option maxRecDepth 20000 in
theorem ggJ0_charAt_5068e_J0_isLatin1_aae02 : GoodIn wsJ0_charAt_5068e wsJ0_isLatin1_aae02 := goodIn_sl _ [(6, 3)] rfl (by decide +kernel)
set_option maxRecDepth 20000 in
theorem gJ0_charAt_5068e_J0_isLatin1_aae02 : GoodIn wsJ0_charAt_5068e (wsV RJ0 492 RJ0 yJ0_isLatin1_aae02 wsJ0_isLatin1_aae02) := goodIn_app (goodIn_of _ (by decide +kernel)) ggJ0_charAt_5068e_J0_isLatin1_aae02
set_option maxRecDepth 20000 in
theorem ggJ0_charAt_5068e_J1_charAt_3b067 : GoodIn wsJ0_charAt_5068e wsJ1_charAt_3b067 := goodIn_sl _ [(12, 3), (5, 1), (15, 6)] rfl (by decide +kernel)
set_option maxRecDepth 20000 in
theorem gJ0_charAt_5068e_J1_charAt_3b067 : GoodIn wsJ0_charAt_5068e (va_wsS RJ0 495 yJ1_charAt_3b067 wsJ1_charAt_3b067) := goodIn_app (goodIn_of _ (by decide +kernel)) ggJ0_charAt_5068e_J1_charAt_3b067
set_option maxRecDepth 20000 in
theorem ggJ0_charAt_5068e_J2_charAt_3b067 : GoodIn wsJ0_charAt_5068e wsJ2_charAt_3b067 := goodIn_sl _ [(24, 3), (23, 1), (27, 5), (14, 1), (5, 1), (15, 6), (32, 6)] rfl (by decide +kernel)
set_option maxRecDepth 20000 in
theorem gJ0_charAt_5068e_J2_charAt_3b067 : GoodIn wsJ0_charAt_5068e (va_wsS RJ0 498 yJ2_charAt_3b067 wsJ2_charAt_3b067) := goodIn_app (goodIn_of _ (by decide +kernel)) ggJ0_charAt_5068e_J2_charAt_3b067
theorem dJ0_charAt_5068e_0 : decode cJ0_charAt_5068e 0 = .ok (.aload_n 0, 1) := by decide +kernel
theorem dJ0_charAt_5068e_1 : decode cJ0_charAt_5068e 1 = .ok (.invokevirtual 492, 3) := by decide +kernel
theorem dJ0_charAt_5068e_4 : decode cJ0_charAt_5068e 4 = .ok (.ifCond .eq 12, 3) := by decide +kernel
theorem dJ0_charAt_5068e_7 : decode cJ0_charAt_5068e 7 = .ok (.aload_n 0, 1) := by decide +kernel
theorem dJ0_charAt_5068e_8 : decode cJ0_charAt_5068e 8 = .ok (.getfield 9, 3) := by decide +kernel
theorem dJ0_charAt_5068e_11 : decode cJ0_charAt_5068e 11 = .ok (.iload_n 1, 1) := by decide +kernel
theorem dJ0_charAt_5068e_12 : decode cJ0_charAt_5068e 12 = .ok (.invokestatic 495, 3) := by decide +kernel
theorem dJ0_charAt_5068e_15 : decode cJ0_charAt_5068e 15 = .ok (.ireturn, 1) := by decide +kernel
theorem dJ0_charAt_5068e_16 : decode cJ0_charAt_5068e 16 = .ok (.aload_n 0, 1) := by decide +kernel
theorem dJ0_charAt_5068e_17 : decode cJ0_charAt_5068e 17 = .ok (.getfield 9, 3) := by decide +kernel
theorem dJ0_charAt_5068e_20 : decode cJ0_charAt_5068e 20 = .ok (.iload_n 1, 1) := by decide +kernel
theorem dJ0_charAt_5068e_21 : decode cJ0_charAt_5068e 21 = .ok (.invokestatic 498, 3) := by decide +kernel
theorem dJ0_charAt_5068e_24 : decode cJ0_charAt_5068e 24 = .ok (.ireturn, 1) := by decide +kernel
theorem dJ0_coder_7d493_0 : decode cJ0_coder_7d493 0 = .ok (.getstatic 38, 3) := by decide +kernel
theorem dJ0_coder_7d493_3 : decode cJ0_coder_7d493 3 = .ok (.ifCond .eq 10, 3) := by decide +kernel
theorem dJ0_coder_7d493_6 : decode cJ0_coder_7d493 6 = .ok (.aload_n 0, 1) := by decide +kernel
theorem dJ0_coder_7d493_7 : decode cJ0_coder_7d493 7 = .ok (.getfield 15, 3) := by decide +kernel
theorem dJ0_coder_7d493_10 : decode cJ0_coder_7d493 10 = .ok (.goto 4, 3) := by decide +kernel
theorem dJ0_coder_7d493_13 : decode cJ0_coder_7d493 13 = .ok (.iconst 1, 1) := by decide +kernel
theorem dJ0_coder_7d493_14 : decode cJ0_coder_7d493 14 = .ok (.ireturn, 1) := by decide +kernel
theorem dJ0_isLatin1_aae02_0 : decode cJ0_isLatin1_aae02 0 = .ok (.getstatic 38, 3) := by decide +kernel
theorem dJ0_isLatin1_aae02_3 : decode cJ0_isLatin1_aae02 3 = .ok (.ifCond .eq 14, 3) := by decide +kernel
theorem dJ0_isLatin1_aae02_6 : decode cJ0_isLatin1_aae02 6 = .ok (.aload_n 0, 1) := by decide +kernel
theorem dJ0_isLatin1_aae02_7 : decode cJ0_isLatin1_aae02 7 = .ok (.getfield 15, 3) := by decide +kernel
theorem dJ0_isLatin1_aae02_10 : decode cJ0_isLatin1_aae02 10 = .ok (.ifCond .ne 7, 3) := by decide +kernel
theorem dJ0_isLatin1_aae02_13 : decode cJ0_isLatin1_aae02 13 = .ok (.iconst 1, 1) := by decide +kernel
theorem dJ0_isLatin1_aae02_14 : decode cJ0_isLatin1_aae02 14 = .ok (.goto 4, 3) := by decide +kernel
theorem dJ0_isLatin1_aae02_17 : decode cJ0_isLatin1_aae02 17 = .ok (.iconst 0, 1) := by decide +kernel
theorem dJ0_isLatin1_aae02_18 : decode cJ0_isLatin1_aae02 18 = .ok (.ireturn, 1) := by decide +kernel
set_option maxRecDepth 20000 in
theorem ggJ0_checkIndex_df160_J3_checkIndex_8e157 : GoodIn wsJ0_checkIndex_df160 wsJ3_checkIndex_8e157 := goodIn_sl _ [(5, 1)] rfl (by decide +kernel)
set_option maxRecDepth 20000 in
theorem gJ0_checkIndex_df160_J3_checkIndex_8e157 : GoodIn wsJ0_checkIndex_df160 (va_wsS RJ0 1059 yJ3_checkIndex_8e157 wsJ3_checkIndex_8e157) := goodIn_app (goodIn_of _ (by decide +kernel)) ggJ0_checkIndex_df160_J3_checkIndex_8e157
theorem dJ0_checkIndex_df160_0 : decode cJ0_checkIndex_df160 0 = .ok (.iload_n 0, 1) := by decide +kernel
theorem dJ0_checkIndex_df160_1 : decode cJ0_checkIndex_df160 1 = .ok (.iload_n 1, 1) := by decide +kernel
theorem dJ0_checkIndex_df160_2 : decode cJ0_checkIndex_df160 2 = .ok (.getstatic 1053, 3) := by decide +kernel
theorem dJ0_checkIndex_df160_5 : decode cJ0_checkIndex_df160 5 = .ok (.invokestatic 1059, 3) := by decide +kernel
theorem dJ0_checkIndex_df160_8 : decode cJ0_checkIndex_df160 8 = .ok (.pop, 1) := by decide +kernel
theorem dJ0_checkIndex_df160_9 : decode cJ0_checkIndex_df160 9 = .ok (.return_, 1) := by decide +kernel
set_option maxRecDepth 20000 in
theorem ggJ1_charAt_3b067_J0_checkIndex_df160 : GoodIn wsJ1_charAt_3b067 wsJ0_checkIndex_df160 := goodIn_sl _ [(4, 6)] rfl (by decide +kernel)
set_option maxRecDepth 20000 in
theorem gJ1_charAt_3b067_J0_checkIndex_df160 : GoodIn wsJ1_charAt_3b067 (va_wsS RJ1 9 yJ0_checkIndex_df160 wsJ0_checkIndex_df160) := goodIn_app (goodIn_of _ (by decide +kernel)) ggJ1_charAt_3b067_J0_checkIndex_df160
theorem dJ1_charAt_3b067_0 : decode cJ1_charAt_3b067 0 = .ok (.iload_n 1, 1) := by decide +kernel
theorem dJ1_charAt_3b067_1 : decode cJ1_charAt_3b067 1 = .ok (.aload_n 0, 1) := by decide +kernel
theorem dJ1_charAt_3b067_2 : decode cJ1_charAt_3b067 2 = .ok (.arraylength, 1) := by decide +kernel
theorem dJ1_charAt_3b067_3 : decode cJ1_charAt_3b067 3 = .ok (.invokestatic 9, 3) := by decide +kernel
theorem dJ1_charAt_3b067_6 : decode cJ1_charAt_3b067 6 = .ok (.aload_n 0, 1) := by decide +kernel
theorem dJ1_charAt_3b067_7 : decode cJ1_charAt_3b067 7 = .ok (.iload_n 1, 1) := by decide +kernel
theorem dJ1_charAt_3b067_8 : decode cJ1_charAt_3b067 8 = .ok (.baload, 1) := by decide +kernel
theorem dJ1_charAt_3b067_9 : decode cJ1_charAt_3b067 9 = .ok (.sipush 255, 3) := by decide +kernel
theorem dJ1_charAt_3b067_12 : decode cJ1_charAt_3b067 12 = .ok (.iand, 1) := by decide +kernel
theorem dJ1_charAt_3b067_13 : decode cJ1_charAt_3b067 13 = .ok (.i2c, 1) := by decide +kernel
theorem dJ1_charAt_3b067_14 : decode cJ1_charAt_3b067 14 = .ok (.ireturn, 1) := by decide +kernel
set_option maxRecDepth 20000 in
theorem ggJ2_getChar_3b067_J2_length_9d52b : GoodIn wsJ2_getChar_3b067 wsJ2_length_9d52b := goodIn_sl _ [(7, 1)] rfl (by decide +kernel)
set_option maxRecDepth 20000 in
theorem gJ2_getChar_3b067_J2_length_9d52b : GoodIn wsJ2_getChar_3b067 (va_wsS RJ2 48 yJ2_length_9d52b wsJ2_length_9d52b) := goodIn_app (goodIn_of _ (by decide +kernel)) ggJ2_getChar_3b067_J2_length_9d52b
theorem dJ2_getChar_3b067_0 : decode cJ2_getChar_3b067 0 = .ok (.getstatic 44, 3) := by decide +kernel
theorem dJ2_getChar_3b067_3 : decode cJ2_getChar_3b067 3 = .ok (.ifCond .ne 25, 3) := by decide +kernel
theorem dJ2_getChar_3b067_6 : decode cJ2_getChar_3b067 6 = .ok (.iload_n 1, 1) := by decide +kernel
theorem dJ2_getChar_3b067_7 : decode cJ2_getChar_3b067 7 = .ok (.ifCond .lt 11, 3) := by decide +kernel
theorem dJ2_getChar_3b067_10 : decode cJ2_getChar_3b067 10 = .ok (.iload_n 1, 1) := by decide +kernel
theorem dJ2_getChar_3b067_11 : decode cJ2_getChar_3b067 11 = .ok (.aload_n 0, 1) := by decide +kernel
theorem dJ2_getChar_3b067_12 : decode cJ2_getChar_3b067 12 = .ok (.invokestatic 48, 3) := by decide +kernel
theorem dJ2_getChar_3b067_15 : decode cJ2_getChar_3b067 15 = .ok (.if_icmp .lt 13, 3) := by decide +kernel
theorem dJ2_getChar_3b067_18 : decode cJ2_getChar_3b067 18 = .ok (.new 52, 3) := by decide +kernel
theorem dJ2_getChar_3b067_21 : decode cJ2_getChar_3b067 21 = .ok (.dup, 1) := by decide +kernel
theorem dJ2_getChar_3b067_22 : decode cJ2_getChar_3b067 22 = .ok (.ldc 54, 2) := by decide +kernel
theorem dJ2_getChar_3b067_24 : decode cJ2_getChar_3b067 24 = .ok (.invokespecial 56, 3) := by decide +kernel
theorem dJ2_getChar_3b067_27 : decode cJ2_getChar_3b067 27 = .ok (.athrow, 1) := by decide +kernel
theorem dJ2_getChar_3b067_28 : decode cJ2_getChar_3b067 28 = .ok (.iload_n 1, 1) := by decide +kernel
theorem dJ2_getChar_3b067_29 : decode cJ2_getChar_3b067 29 = .ok (.iconst 1, 1) := by decide +kernel
theorem dJ2_getChar_3b067_30 : decode cJ2_getChar_3b067 30 = .ok (.ishl, 1) := by decide +kernel
theorem dJ2_getChar_3b067_31 : decode cJ2_getChar_3b067 31 = .ok (.istore_n 1, 1) := by decide +kernel
theorem dJ2_getChar_3b067_32 : decode cJ2_getChar_3b067 32 = .ok (.aload_n 0, 1) := by decide +kernel
theorem dJ2_getChar_3b067_33 : decode cJ2_getChar_3b067 33 = .ok (.iload_n 1, 1) := by decide +kernel
theorem dJ2_getChar_3b067_34 : decode cJ2_getChar_3b067 34 = .ok (.iinc 1 1, 3) := by decide +kernel
theorem dJ2_getChar_3b067_37 : decode cJ2_getChar_3b067 37 = .ok (.baload, 1) := by decide +kernel
theorem dJ2_getChar_3b067_38 : decode cJ2_getChar_3b067 38 = .ok (.sipush 255, 3) := by decide +kernel
theorem dJ2_getChar_3b067_41 : decode cJ2_getChar_3b067 41 = .ok (.iand, 1) := by decide +kernel
theorem dJ2_getChar_3b067_42 : decode cJ2_getChar_3b067 42 = .ok (.getstatic 59, 3) := by decide +kernel
theorem dJ2_getChar_3b067_45 : decode cJ2_getChar_3b067 45 = .ok (.ishl, 1) := by decide +kernel
theorem dJ2_getChar_3b067_46 : decode cJ2_getChar_3b067 46 = .ok (.aload_n 0, 1) := by decide +kernel
theorem dJ2_getChar_3b067_47 : decode cJ2_getChar_3b067 47 = .ok (.iload_n 1, 1) := by decide +kernel
theorem dJ2_getChar_3b067_48 : decode cJ2_getChar_3b067 48 = .ok (.baload, 1) := by decide +kernel
theorem dJ2_getChar_3b067_49 : decode cJ2_getChar_3b067 49 = .ok (.sipush 255, 3) := by decide +kernel
theorem dJ2_getChar_3b067_52 : decode cJ2_getChar_3b067 52 = .ok (.iand, 1) := by decide +kernel
theorem dJ2_getChar_3b067_53 : decode cJ2_getChar_3b067 53 = .ok (.getstatic 63, 3) := by decide +kernel
theorem dJ2_getChar_3b067_56 : decode cJ2_getChar_3b067 56 = .ok (.ishl, 1) := by decide +kernel
theorem dJ2_getChar_3b067_57 : decode cJ2_getChar_3b067 57 = .ok (.ior, 1) := by decide +kernel
theorem dJ2_getChar_3b067_58 : decode cJ2_getChar_3b067 58 = .ok (.i2c, 1) := by decide +kernel
theorem dJ2_getChar_3b067_59 : decode cJ2_getChar_3b067 59 = .ok (.ireturn, 1) := by decide +kernel
theorem dJ2_length_9d52b_0 : decode cJ2_length_9d52b 0 = .ok (.aload_n 0, 1) := by decide +kernel
theorem dJ2_length_9d52b_1 : decode cJ2_length_9d52b 1 = .ok (.arraylength, 1) := by decide +kernel
theorem dJ2_length_9d52b_2 : decode cJ2_length_9d52b 2 = .ok (.iconst 1, 1) := by decide +kernel
theorem dJ2_length_9d52b_3 : decode cJ2_length_9d52b 3 = .ok (.ishr, 1) := by decide +kernel
theorem dJ2_length_9d52b_4 : decode cJ2_length_9d52b 4 = .ok (.ireturn, 1) := by decide +kernel
set_option maxRecDepth 20000 in
theorem ggJ2_charAt_3b067_J2_checkIndex_2214a : GoodIn wsJ2_charAt_3b067 wsJ2_checkIndex_2214a := goodIn_sl _ [(4, 3), (3, 1), (7, 10)] rfl (by decide +kernel)
set_option maxRecDepth 20000 in
theorem gJ2_charAt_3b067_J2_checkIndex_2214a : GoodIn wsJ2_charAt_3b067 (va_wsS RJ2 67 yJ2_checkIndex_2214a wsJ2_checkIndex_2214a) := goodIn_app (goodIn_of _ (by decide +kernel)) ggJ2_charAt_3b067_J2_checkIndex_2214a
set_option maxRecDepth 20000 in
theorem ggJ2_charAt_3b067_J2_getChar_3b067 : GoodIn wsJ2_charAt_3b067 wsJ2_getChar_3b067 := goodIn_sl _ [(19, 4), (5, 2), (3, 1), (7, 1)] rfl (by decide +kernel)
set_option maxRecDepth 20000 in
theorem gJ2_charAt_3b067_J2_getChar_3b067 : GoodIn wsJ2_charAt_3b067 (va_wsS RJ2 71 yJ2_getChar_3b067 wsJ2_getChar_3b067) := goodIn_app (goodIn_of _ (by decide +kernel)) ggJ2_charAt_3b067_J2_getChar_3b067
theorem dJ2_charAt_3b067_0 : decode cJ2_charAt_3b067 0 = .ok (.iload_n 1, 1) := by decide +kernel
theorem dJ2_charAt_3b067_1 : decode cJ2_charAt_3b067 1 = .ok (.aload_n 0, 1) := by decide +kernel
theorem dJ2_charAt_3b067_2 : decode cJ2_charAt_3b067 2 = .ok (.invokestatic 67, 3) := by decide +kernel
theorem dJ2_charAt_3b067_5 : decode cJ2_charAt_3b067 5 = .ok (.aload_n 0, 1) := by decide +kernel
theorem dJ2_charAt_3b067_6 : decode cJ2_charAt_3b067 6 = .ok (.iload_n 1, 1) := by decide +kernel
theorem dJ2_charAt_3b067_7 : decode cJ2_charAt_3b067 7 = .ok (.invokestatic 71, 3) := by decide +kernel
theorem dJ2_charAt_3b067_10 : decode cJ2_charAt_3b067 10 = .ok (.ireturn, 1) := by decide +kernel
set_option maxRecDepth 20000 in
theorem ggJ2_checkIndex_2214a_J2_length_9d52b : GoodIn wsJ2_checkIndex_2214a wsJ2_length_9d52b := goodIn_sl _ [(4, 1)] rfl (by decide +kernel)
set_option maxRecDepth 20000 in
theorem gJ2_checkIndex_2214a_J2_length_9d52b : GoodIn wsJ2_checkIndex_2214a (va_wsS RJ2 48 yJ2_length_9d52b wsJ2_length_9d52b) := goodIn_app (goodIn_of _ (by decide +kernel)) ggJ2_checkIndex_2214a_J2_length_9d52b
set_option maxRecDepth 20000 in
theorem ggJ2_checkIndex_2214a_J0_checkIndex_df160 : GoodIn wsJ2_checkIndex_2214a wsJ0_checkIndex_df160 := goodIn_sl _ [(8, 6)] rfl (by decide +kernel)
set_option maxRecDepth 20000 in
theorem gJ2_checkIndex_2214a_J0_checkIndex_df160 : GoodIn wsJ2_checkIndex_2214a (va_wsS RJ2 414 yJ0_checkIndex_df160 wsJ0_checkIndex_df160) := goodIn_app (goodIn_of _ (by decide +kernel)) ggJ2_checkIndex_2214a_J0_checkIndex_df160
theorem dJ2_checkIndex_2214a_0 : decode cJ2_checkIndex_2214a 0 = .ok (.iload_n 0, 1) := by decide +kernel
theorem dJ2_checkIndex_2214a_1 : decode cJ2_checkIndex_2214a 1 = .ok (.aload_n 1, 1) := by decide +kernel
theorem dJ2_checkIndex_2214a_2 : decode cJ2_checkIndex_2214a 2 = .ok (.invokestatic 48, 3) := by decide +kernel
theorem dJ2_checkIndex_2214a_5 : decode cJ2_checkIndex_2214a 5 = .ok (.invokestatic 414, 3) := by decide +kernel
theorem dJ2_checkIndex_2214a_8 : decode cJ2_checkIndex_2214a 8 = .ok (.return_, 1) := by decide +kernel
theorem dJ7_fill_53178_0 : decode cJ7_fill_53178 0 = .ok (.iconst 0, 1) := by decide +kernel
theorem dJ7_fill_53178_1 : decode cJ7_fill_53178 1 = .ok (.istore_n 2, 1) := by decide +kernel
theorem dJ7_fill_53178_2 : decode cJ7_fill_53178 2 = .ok (.aload_n 0, 1) := by decide +kernel
theorem dJ7_fill_53178_3 : decode cJ7_fill_53178 3 = .ok (.arraylength, 1) := by decide +kernel
theorem dJ7_fill_53178_4 : decode cJ7_fill_53178 4 = .ok (.istore_n 3, 1) := by decide +kernel
theorem dJ7_fill_53178_5 : decode cJ7_fill_53178 5 = .ok (.iload_n 2, 1) := by decide +kernel
theorem dJ7_fill_53178_6 : decode cJ7_fill_53178 6 = .ok (.iload_n 3, 1) := by decide +kernel
theorem dJ7_fill_53178_7 : decode cJ7_fill_53178 7 = .ok (.if_icmp .ge 13, 3) := by decide +kernel
theorem dJ7_fill_53178_10 : decode cJ7_fill_53178 10 = .ok (.aload_n 0, 1) := by decide +kernel
theorem dJ7_fill_53178_11 : decode cJ7_fill_53178 11 = .ok (.iload_n 2, 1) := by decide +kernel
theorem dJ7_fill_53178_12 : decode cJ7_fill_53178 12 = .ok (.iload_n 1, 1) := by decide +kernel
theorem dJ7_fill_53178_13 : decode cJ7_fill_53178 13 = .ok (.iastore, 1) := by decide +kernel
theorem dJ7_fill_53178_14 : decode cJ7_fill_53178 14 = .ok (.iinc 2 1, 3) := by decide +kernel
theorem dJ7_fill_53178_17 : decode cJ7_fill_53178 17 = .ok (.goto (-12), 3) := by decide +kernel
theorem dJ7_fill_53178_20 : decode cJ7_fill_53178 20 = .ok (.return_, 1) := by decide +kernel
theorem dJ3_checkIndex_8e157_0 : decode cJ3_checkIndex_8e157 0 = .ok (.iload_n 0, 1) := by decide +kernel
theorem dJ3_checkIndex_8e157_1 : decode cJ3_checkIndex_8e157 1 = .ok (.ifCond .lt 8, 3) := by decide +kernel
theorem dJ3_checkIndex_8e157_4 : decode cJ3_checkIndex_8e157 4 = .ok (.iload_n 0, 1) := by decide +kernel
theorem dJ3_checkIndex_8e157_5 : decode cJ3_checkIndex_8e157 5 = .ok (.iload_n 1, 1) := by decide +kernel
theorem dJ3_checkIndex_8e157_6 : decode cJ3_checkIndex_8e157 6 = .ok (.if_icmp .lt 10, 3) := by decide +kernel
theorem dJ3_checkIndex_8e157_9 : decode cJ3_checkIndex_8e157 9 = .ok (.aload_n 2, 1) := by decide +kernel
theorem dJ3_checkIndex_8e157_10 : decode cJ3_checkIndex_8e157 10 = .ok (.iload_n 0, 1) := by decide +kernel
theorem dJ3_checkIndex_8e157_11 : decode cJ3_checkIndex_8e157 11 = .ok (.iload_n 1, 1) := by decide +kernel
theorem dJ3_checkIndex_8e157_12 : decode cJ3_checkIndex_8e157 12 = .ok (.invokestatic 95, 3) := by decide +kernel
theorem dJ3_checkIndex_8e157_15 : decode cJ3_checkIndex_8e157 15 = .ok (.athrow, 1) := by decide +kernel
theorem dJ3_checkIndex_8e157_16 : decode cJ3_checkIndex_8e157 16 = .ok (.iload_n 0, 1) := by decide +kernel
theorem dJ3_checkIndex_8e157_17 : decode cJ3_checkIndex_8e157 17 = .ok (.ireturn, 1) := by decide +kernel
set_option maxRecDepth 20000 in
theorem ggX0_init_J7_fill_53178 : GoodIn wsX0_init wsJ7_fill_53178 := goodIn_sl _ [(17, 1)] rfl (by decide +kernel)
set_option maxRecDepth 20000 in
theorem gX0_init_J7_fill_53178 : GoodIn wsX0_init (va_wsS RX0 37 yJ7_fill_53178 wsJ7_fill_53178) := goodIn_app (goodIn_of _ (by decide +kernel)) ggX0_init_J7_fill_53178
theorem dX0_init_0 : decode cX0_init 0 = .ok (.aload_n 0, 1) := by decide +kernel
theorem dX0_init_1 : decode cX0_init 1 = .ok (.invokespecial 3, 3) := by decide +kernel
theorem dX0_init_4 : decode cX0_init 4 = .ok (.aload_n 0, 1) := by decide +kernel
theorem dX0_init_5 : decode cX0_init 5 = .ok (.iconst 0, 1) := by decide +kernel
theorem dX0_init_6 : decode cX0_init 6 = .ok (.putfield 9, 3) := by decide +kernel
theorem dX0_init_9 : decode cX0_init 9 = .ok (.aload_n 0, 1) := by decide +kernel
theorem dX0_init_10 : decode cX0_init 10 = .ok (.sipush 143, 3) := by decide +kernel
theorem dX0_init_13 : decode cX0_init 13 = .ok (.newarray .int, 2) := by decide +kernel
theorem dX0_init_15 : decode cX0_init 15 = .ok (.putfield 15, 3) := by decide +kernel
theorem dX0_init_18 : decode cX0_init 18 = .ok (.aload_n 0, 1) := by decide +kernel
theorem dX0_init_19 : decode cX0_init 19 = .ok (.bipush 10, 2) := by decide +kernel
theorem dX0_init_21 : decode cX0_init 21 = .ok (.newarray .int, 2) := by decide +kernel
theorem dX0_init_23 : decode cX0_init 23 = .ok (.putfield 19, 3) := by decide +kernel
theorem dX0_init_26 : decode cX0_init 26 = .ok (.aload_n 0, 1) := by decide +kernel
theorem dX0_init_27 : decode cX0_init 27 = .ok (.bipush 10, 2) := by decide +kernel
theorem dX0_init_29 : decode cX0_init 29 = .ok (.newarray .int, 2) := by decide +kernel
theorem dX0_init_31 : decode cX0_init 31 = .ok (.putfield 22, 3) := by decide +kernel
theorem dX0_init_34 : decode cX0_init 34 = .ok (.aload_n 0, 1) := by decide +kernel
theorem dX0_init_35 : decode cX0_init 35 = .ok (.bipush 10, 2) := by decide +kernel
theorem dX0_init_37 : decode cX0_init 37 = .ok (.newarray .int, 2) := by decide +kernel
theorem dX0_init_39 : decode cX0_init 39 = .ok (.putfield 25, 3) := by decide +kernel
theorem dX0_init_42 : decode cX0_init 42 = .ok (.getstatic 28, 3) := by decide +kernel
theorem dX0_init_45 : decode cX0_init 45 = .ok (.iconst 0, 1) := by decide +kernel
theorem dX0_init_46 : decode cX0_init 46 = .ok (.aload_n 0, 1) := by decide +kernel
theorem dX0_init_47 : decode cX0_init 47 = .ok (.getfield 15, 3) := by decide +kernel
theorem dX0_init_50 : decode cX0_init 50 = .ok (.iconst 0, 1) := by decide +kernel
theorem dX0_init_51 : decode cX0_init 51 = .ok (.bipush 13, 2) := by decide +kernel
theorem dX0_init_53 : decode cX0_init 53 = .ok (.invokestatic 31, 3) := by decide +kernel
theorem dX0_init_56 : decode cX0_init 56 = .ok (.aload_n 0, 1) := by decide +kernel
theorem dX0_init_57 : decode cX0_init 57 = .ok (.getfield 25, 3) := by decide +kernel
theorem dX0_init_60 : decode cX0_init 60 = .ok (.sipush 400, 3) := by decide +kernel
theorem dX0_init_63 : decode cX0_init 63 = .ok (.invokestatic 37, 3) := by decide +kernel
theorem dX0_init_66 : decode cX0_init 66 = .ok (.return_, 1) := by decide +kernel
theorem dX0_make_0 : decode cX0_make 0 = .ok (.aload_n 0, 1) := by decide +kernel
theorem dX0_make_1 : decode cX0_make 1 = .ok (.getfield 9, 3) := by decide +kernel
theorem dX0_make_4 : decode cX0_make 4 = .ok (.bipush 10, 2) := by decide +kernel
theorem dX0_make_6 : decode cX0_make 6 = .ok (.if_icmp .ne 5, 3) := by decide +kernel
theorem dX0_make_9 : decode cX0_make 9 = .ok (.iconst (-1), 1) := by decide +kernel
theorem dX0_make_10 : decode cX0_make 10 = .ok (.ireturn, 1) := by decide +kernel
theorem dX0_make_11 : decode cX0_make 11 = .ok (.aload_n 0, 1) := by decide +kernel
theorem dX0_make_12 : decode cX0_make 12 = .ok (.getfield 9, 3) := by decide +kernel
theorem dX0_make_15 : decode cX0_make 15 = .ok (.istore 4, 2) := by decide +kernel
theorem dX0_make_17 : decode cX0_make 17 = .ok (.aload_n 0, 1) := by decide +kernel
theorem dX0_make_18 : decode cX0_make 18 = .ok (.dup, 1) := by decide +kernel
theorem dX0_make_19 : decode cX0_make 19 = .ok (.getfield 9, 3) := by decide +kernel
theorem dX0_make_22 : decode cX0_make 22 = .ok (.iconst 1, 1) := by decide +kernel
theorem dX0_make_23 : decode cX0_make 23 = .ok (.iadd, 1) := by decide +kernel
theorem dX0_make_24 : decode cX0_make 24 = .ok (.putfield 9, 3) := by decide +kernel
theorem dX0_make_27 : decode cX0_make 27 = .ok (.aload_n 1, 1) := by decide +kernel
theorem dX0_make_28 : decode cX0_make 28 = .ok (.iconst 0, 1) := by decide +kernel
theorem dX0_make_29 : decode cX0_make 29 = .ok (.aload_n 0, 1) := by decide +kernel
theorem dX0_make_30 : decode cX0_make 30 = .ok (.getfield 15, 3) := by decide +kernel
theorem dX0_make_33 : decode cX0_make 33 = .ok (.iload 4, 2) := by decide +kernel
theorem dX0_make_35 : decode cX0_make 35 = .ok (.iconst 1, 1) := by decide +kernel
theorem dX0_make_36 : decode cX0_make 36 = .ok (.iadd, 1) := by decide +kernel
theorem dX0_make_37 : decode cX0_make 37 = .ok (.bipush 13, 2) := by decide +kernel
theorem dX0_make_39 : decode cX0_make 39 = .ok (.imul, 1) := by decide +kernel
theorem dX0_make_40 : decode cX0_make 40 = .ok (.bipush 13, 2) := by decide +kernel
theorem dX0_make_42 : decode cX0_make 42 = .ok (.invokestatic 31, 3) := by decide +kernel
theorem dX0_make_45 : decode cX0_make 45 = .ok (.aload_n 0, 1) := by decide +kernel
theorem dX0_make_46 : decode cX0_make 46 = .ok (.getfield 19, 3) := by decide +kernel
theorem dX0_make_49 : decode cX0_make 49 = .ok (.iload 4, 2) := by decide +kernel
theorem dX0_make_51 : decode cX0_make 51 = .ok (.iload_n 2, 1) := by decide +kernel
theorem dX0_make_52 : decode cX0_make 52 = .ok (.iastore, 1) := by decide +kernel
theorem dX0_make_53 : decode cX0_make 53 = .ok (.aload_n 0, 1) := by decide +kernel
theorem dX0_make_54 : decode cX0_make 54 = .ok (.getfield 22, 3) := by decide +kernel
theorem dX0_make_57 : decode cX0_make 57 = .ok (.iload 4, 2) := by decide +kernel
theorem dX0_make_59 : decode cX0_make 59 = .ok (.iload_n 3, 1) := by decide +kernel
theorem dX0_make_60 : decode cX0_make 60 = .ok (.iastore, 1) := by decide +kernel
theorem dX0_make_61 : decode cX0_make 61 = .ok (.iload 4, 2) := by decide +kernel
theorem dX0_make_63 : decode cX0_make 63 = .ok (.ireturn, 1) := by decide +kernel
theorem dX0_strike_0 : decode cX0_strike 0 = .ok (.iload_n 1, 1) := by decide +kernel
theorem dX0_strike_1 : decode cX0_strike 1 = .ok (.ifCond .lt 23, 3) := by decide +kernel
theorem dX0_strike_4 : decode cX0_strike 4 = .ok (.iload_n 1, 1) := by decide +kernel
theorem dX0_strike_5 : decode cX0_strike 5 = .ok (.aload_n 0, 1) := by decide +kernel
theorem dX0_strike_6 : decode cX0_strike 6 = .ok (.getfield 9, 3) := by decide +kernel
theorem dX0_strike_9 : decode cX0_strike 9 = .ok (.if_icmp .ge 15, 3) := by decide +kernel
theorem dX0_strike_12 : decode cX0_strike 12 = .ok (.aload_n 0, 1) := by decide +kernel
theorem dX0_strike_13 : decode cX0_strike 13 = .ok (.getfield 25, 3) := by decide +kernel
theorem dX0_strike_16 : decode cX0_strike 16 = .ok (.iload_n 1, 1) := by decide +kernel
theorem dX0_strike_17 : decode cX0_strike 17 = .ok (.iaload, 1) := by decide +kernel
theorem dX0_strike_18 : decode cX0_strike 18 = .ok (.sipush 400, 3) := by decide +kernel
theorem dX0_strike_21 : decode cX0_strike 21 = .ok (.if_icmp .eq 5, 3) := by decide +kernel
theorem dX0_strike_24 : decode cX0_strike 24 = .ok (.iconst 0, 1) := by decide +kernel
theorem dX0_strike_25 : decode cX0_strike 25 = .ok (.ireturn, 1) := by decide +kernel
theorem dX0_strike_26 : decode cX0_strike 26 = .ok (.aload_n 0, 1) := by decide +kernel
theorem dX0_strike_27 : decode cX0_strike 27 = .ok (.getfield 25, 3) := by decide +kernel
theorem dX0_strike_30 : decode cX0_strike 30 = .ok (.iload_n 1, 1) := by decide +kernel
theorem dX0_strike_31 : decode cX0_strike 31 = .ok (.iload_n 2, 1) := by decide +kernel
theorem dX0_strike_32 : decode cX0_strike 32 = .ok (.iastore, 1) := by decide +kernel
theorem dX0_strike_33 : decode cX0_strike 33 = .ok (.iconst 1, 1) := by decide +kernel
theorem dX0_strike_34 : decode cX0_strike 34 = .ok (.ireturn, 1) := by decide +kernel
set_option maxRecDepth 20000 in
theorem ggX0_inForce_X0_isUndone : GoodIn wsX0_inForce wsX0_isUndone := goodIn_sl _ [(8, 7)] rfl (by decide +kernel)
set_option maxRecDepth 20000 in
theorem gX0_inForce_X0_isUndone : GoodIn wsX0_inForce (wsV RX0 43 RX0 yX0_isUndone wsX0_isUndone) := goodIn_app (goodIn_of _ (by decide +kernel)) ggX0_inForce_X0_isUndone
theorem dX0_inForce_0 : decode cX0_inForce 0 = .ok (.iconst (-1), 1) := by decide +kernel
theorem dX0_inForce_1 : decode cX0_inForce 1 = .ok (.istore_n 3, 1) := by decide +kernel
theorem dX0_inForce_2 : decode cX0_inForce 2 = .ok (.iconst 0, 1) := by decide +kernel
theorem dX0_inForce_3 : decode cX0_inForce 3 = .ok (.istore 4, 2) := by decide +kernel
theorem dX0_inForce_5 : decode cX0_inForce 5 = .ok (.iload 4, 2) := by decide +kernel
theorem dX0_inForce_7 : decode cX0_inForce 7 = .ok (.aload_n 0, 1) := by decide +kernel
theorem dX0_inForce_8 : decode cX0_inForce 8 = .ok (.getfield 9, 3) := by decide +kernel
theorem dX0_inForce_11 : decode cX0_inForce 11 = .ok (.if_icmp .ge 77, 3) := by decide +kernel
theorem dX0_inForce_14 : decode cX0_inForce 14 = .ok (.aload_n 0, 1) := by decide +kernel
theorem dX0_inForce_15 : decode cX0_inForce 15 = .ok (.getfield 22, 3) := by decide +kernel
theorem dX0_inForce_18 : decode cX0_inForce 18 = .ok (.iload 4, 2) := by decide +kernel
theorem dX0_inForce_20 : decode cX0_inForce 20 = .ok (.iaload, 1) := by decide +kernel
theorem dX0_inForce_21 : decode cX0_inForce 21 = .ok (.iload_n 2, 1) := by decide +kernel
theorem dX0_inForce_22 : decode cX0_inForce 22 = .ok (.if_icmp .gt 17, 3) := by decide +kernel
theorem dX0_inForce_25 : decode cX0_inForce 25 = .ok (.aload_n 0, 1) := by decide +kernel
theorem dX0_inForce_26 : decode cX0_inForce 26 = .ok (.iload 4, 2) := by decide +kernel
theorem dX0_inForce_28 : decode cX0_inForce 28 = .ok (.iload_n 2, 1) := by decide +kernel
theorem dX0_inForce_29 : decode cX0_inForce 29 = .ok (.invokevirtual 43, 3) := by decide +kernel
theorem dX0_inForce_32 : decode cX0_inForce 32 = .ok (.ifCond .ne 7, 3) := by decide +kernel
theorem dX0_inForce_35 : decode cX0_inForce 35 = .ok (.iconst 1, 1) := by decide +kernel
theorem dX0_inForce_36 : decode cX0_inForce 36 = .ok (.goto 4, 3) := by decide +kernel
theorem dX0_inForce_39 : decode cX0_inForce 39 = .ok (.iconst 0, 1) := by decide +kernel
theorem dX0_inForce_40 : decode cX0_inForce 40 = .ok (.istore 5, 2) := by decide +kernel
theorem dX0_inForce_42 : decode cX0_inForce 42 = .ok (.iload 5, 2) := by decide +kernel
theorem dX0_inForce_44 : decode cX0_inForce 44 = .ok (.ifCond .eq 38, 3) := by decide +kernel
theorem dX0_inForce_47 : decode cX0_inForce 47 = .ok (.aload_n 0, 1) := by decide +kernel
theorem dX0_inForce_48 : decode cX0_inForce 48 = .ok (.getfield 19, 3) := by decide +kernel
theorem dX0_inForce_51 : decode cX0_inForce 51 = .ok (.iload 4, 2) := by decide +kernel
theorem dX0_inForce_53 : decode cX0_inForce 53 = .ok (.iaload, 1) := by decide +kernel
theorem dX0_inForce_54 : decode cX0_inForce 54 = .ok (.iload_n 1, 1) := by decide +kernel
theorem dX0_inForce_55 : decode cX0_inForce 55 = .ok (.if_icmp .gt 27, 3) := by decide +kernel
theorem dX0_inForce_58 : decode cX0_inForce 58 = .ok (.iload_n 3, 1) := by decide +kernel
theorem dX0_inForce_59 : decode cX0_inForce 59 = .ok (.iconst (-1), 1) := by decide +kernel
theorem dX0_inForce_60 : decode cX0_inForce 60 = .ok (.if_icmp .eq 19, 3) := by decide +kernel
theorem dX0_inForce_63 : decode cX0_inForce 63 = .ok (.aload_n 0, 1) := by decide +kernel
theorem dX0_inForce_64 : decode cX0_inForce 64 = .ok (.getfield 19, 3) := by decide +kernel
theorem dX0_inForce_67 : decode cX0_inForce 67 = .ok (.iload 4, 2) := by decide +kernel
theorem dX0_inForce_69 : decode cX0_inForce 69 = .ok (.iaload, 1) := by decide +kernel
theorem dX0_inForce_70 : decode cX0_inForce 70 = .ok (.aload_n 0, 1) := by decide +kernel
theorem dX0_inForce_71 : decode cX0_inForce 71 = .ok (.getfield 19, 3) := by decide +kernel
theorem dX0_inForce_74 : decode cX0_inForce 74 = .ok (.iload_n 3, 1) := by decide +kernel
theorem dX0_inForce_75 : decode cX0_inForce 75 = .ok (.iaload, 1) := by decide +kernel
theorem dX0_inForce_76 : decode cX0_inForce 76 = .ok (.if_icmp .lt 6, 3) := by decide +kernel
theorem dX0_inForce_79 : decode cX0_inForce 79 = .ok (.iload 4, 2) := by decide +kernel
theorem dX0_inForce_81 : decode cX0_inForce 81 = .ok (.istore_n 3, 1) := by decide +kernel
theorem dX0_inForce_82 : decode cX0_inForce 82 = .ok (.iinc 4 1, 3) := by decide +kernel
theorem dX0_inForce_85 : decode cX0_inForce 85 = .ok (.goto (-80), 3) := by decide +kernel
theorem dX0_inForce_88 : decode cX0_inForce 88 = .ok (.iload_n 3, 1) := by decide +kernel
theorem dX0_inForce_89 : decode cX0_inForce 89 = .ok (.ireturn, 1) := by decide +kernel
theorem dX0_isUndone_0 : decode cX0_isUndone 0 = .ok (.aload_n 0, 1) := by decide +kernel
theorem dX0_isUndone_1 : decode cX0_isUndone 1 = .ok (.getfield 25, 3) := by decide +kernel
theorem dX0_isUndone_4 : decode cX0_isUndone 4 = .ok (.iload_n 1, 1) := by decide +kernel
theorem dX0_isUndone_5 : decode cX0_isUndone 5 = .ok (.iaload, 1) := by decide +kernel
theorem dX0_isUndone_6 : decode cX0_isUndone 6 = .ok (.sipush 400, 3) := by decide +kernel
theorem dX0_isUndone_9 : decode cX0_isUndone 9 = .ok (.if_icmp .eq 17, 3) := by decide +kernel
theorem dX0_isUndone_12 : decode cX0_isUndone 12 = .ok (.aload_n 0, 1) := by decide +kernel
theorem dX0_isUndone_13 : decode cX0_isUndone 13 = .ok (.getfield 25, 3) := by decide +kernel
theorem dX0_isUndone_16 : decode cX0_isUndone 16 = .ok (.iload_n 1, 1) := by decide +kernel
theorem dX0_isUndone_17 : decode cX0_isUndone 17 = .ok (.iaload, 1) := by decide +kernel
theorem dX0_isUndone_18 : decode cX0_isUndone 18 = .ok (.iload_n 2, 1) := by decide +kernel
theorem dX0_isUndone_19 : decode cX0_isUndone 19 = .ok (.if_icmp .gt 7, 3) := by decide +kernel
theorem dX0_isUndone_22 : decode cX0_isUndone 22 = .ok (.iconst 1, 1) := by decide +kernel
theorem dX0_isUndone_23 : decode cX0_isUndone 23 = .ok (.goto 4, 3) := by decide +kernel
theorem dX0_isUndone_26 : decode cX0_isUndone 26 = .ok (.iconst 0, 1) := by decide +kernel
theorem dX0_isUndone_27 : decode cX0_isUndone 27 = .ok (.ireturn, 1) := by decide +kernel
theorem dX0_number_0 : decode cX0_number 0 = .ok (.aload_n 0, 1) := by decide +kernel
theorem dX0_number_1 : decode cX0_number 1 = .ok (.getfield 15, 3) := by decide +kernel
theorem dX0_number_4 : decode cX0_number 4 = .ok (.iload_n 1, 1) := by decide +kernel
theorem dX0_number_5 : decode cX0_number 5 = .ok (.iconst 1, 1) := by decide +kernel
theorem dX0_number_6 : decode cX0_number 6 = .ok (.iadd, 1) := by decide +kernel
theorem dX0_number_7 : decode cX0_number 7 = .ok (.bipush 13, 2) := by decide +kernel
theorem dX0_number_9 : decode cX0_number 9 = .ok (.imul, 1) := by decide +kernel
theorem dX0_number_10 : decode cX0_number 10 = .ok (.iload_n 2, 1) := by decide +kernel
theorem dX0_number_11 : decode cX0_number 11 = .ok (.iadd, 1) := by decide +kernel
theorem dX0_number_12 : decode cX0_number 12 = .ok (.iaload, 1) := by decide +kernel
theorem dX0_number_13 : decode cX0_number 13 = .ok (.ireturn, 1) := by decide +kernel
set_option maxRecDepth 20000 in
theorem ggX0_pointsFor_X0_number : GoodIn wsX0_pointsFor wsX0_number := goodIn_sl _ [(5, 7)] rfl (by decide +kernel)
set_option maxRecDepth 20000 in
theorem gX0_pointsFor_X0_number : GoodIn wsX0_pointsFor (wsV RX0 47 RX0 yX0_number wsX0_number) := goodIn_app (goodIn_of _ (by decide +kernel)) ggX0_pointsFor_X0_number
theorem dX0_pointsFor_0 : decode cX0_pointsFor 0 = .ok (.iload_n 3, 1) := by decide +kernel
theorem dX0_pointsFor_1 : decode cX0_pointsFor 1 = .ok (.ifCond .ne 7, 3) := by decide +kernel
theorem dX0_pointsFor_4 : decode cX0_pointsFor 4 = .ok (.iconst 0, 1) := by decide +kernel
theorem dX0_pointsFor_5 : decode cX0_pointsFor 5 = .ok (.goto 21, 3) := by decide +kernel
theorem dX0_pointsFor_8 : decode cX0_pointsFor 8 = .ok (.aload_n 0, 1) := by decide +kernel
theorem dX0_pointsFor_9 : decode cX0_pointsFor 9 = .ok (.iload_n 1, 1) := by decide +kernel
theorem dX0_pointsFor_10 : decode cX0_pointsFor 10 = .ok (.bipush 6, 2) := by decide +kernel
theorem dX0_pointsFor_12 : decode cX0_pointsFor 12 = .ok (.iload_n 2, 1) := by decide +kernel
theorem dX0_pointsFor_13 : decode cX0_pointsFor 13 = .ok (.iadd, 1) := by decide +kernel
theorem dX0_pointsFor_14 : decode cX0_pointsFor 14 = .ok (.invokevirtual 47, 3) := by decide +kernel
theorem dX0_pointsFor_17 : decode cX0_pointsFor 17 = .ok (.aload_n 0, 1) := by decide +kernel
theorem dX0_pointsFor_18 : decode cX0_pointsFor 18 = .ok (.iload_n 1, 1) := by decide +kernel
theorem dX0_pointsFor_19 : decode cX0_pointsFor 19 = .ok (.iload_n 3, 1) := by decide +kernel
theorem dX0_pointsFor_20 : decode cX0_pointsFor 20 = .ok (.iconst 1, 1) := by decide +kernel
theorem dX0_pointsFor_21 : decode cX0_pointsFor 21 = .ok (.isub, 1) := by decide +kernel
theorem dX0_pointsFor_22 : decode cX0_pointsFor 22 = .ok (.invokevirtual 47, 3) := by decide +kernel
theorem dX0_pointsFor_25 : decode cX0_pointsFor 25 = .ok (.imul, 1) := by decide +kernel
theorem dX0_pointsFor_26 : decode cX0_pointsFor 26 = .ok (.ireturn, 1) := by decide +kernel
theorem dX1_init_0 : decode cX1_init 0 = .ok (.aload_n 0, 1) := by decide +kernel
theorem dX1_init_1 : decode cX1_init 1 = .ok (.invokespecial 3, 3) := by decide +kernel
theorem dX1_init_4 : decode cX1_init 4 = .ok (.aload_n 0, 1) := by decide +kernel
theorem dX1_init_5 : decode cX1_init 5 = .ok (.iconst 0, 1) := by decide +kernel
theorem dX1_init_6 : decode cX1_init 6 = .ok (.putfield 9, 3) := by decide +kernel
theorem dX1_init_9 : decode cX1_init 9 = .ok (.aload_n 0, 1) := by decide +kernel
theorem dX1_init_10 : decode cX1_init 10 = .ok (.iconst 0, 1) := by decide +kernel
theorem dX1_init_11 : decode cX1_init 11 = .ok (.putfield 15, 3) := by decide +kernel
theorem dX1_init_14 : decode cX1_init 14 = .ok (.aload_n 0, 1) := by decide +kernel
theorem dX1_init_15 : decode cX1_init 15 = .ok (.bipush 20, 2) := by decide +kernel
theorem dX1_init_17 : decode cX1_init 17 = .ok (.newarray .int, 2) := by decide +kernel
theorem dX1_init_19 : decode cX1_init 19 = .ok (.putfield 18, 3) := by decide +kernel
theorem dX1_init_22 : decode cX1_init 22 = .ok (.aload_n 0, 1) := by decide +kernel
theorem dX1_init_23 : decode cX1_init 23 = .ok (.bipush 20, 2) := by decide +kernel
theorem dX1_init_25 : decode cX1_init 25 = .ok (.newarray .int, 2) := by decide +kernel
theorem dX1_init_27 : decode cX1_init 27 = .ok (.putfield 22, 3) := by decide +kernel
theorem dX1_init_30 : decode cX1_init 30 = .ok (.aload_n 0, 1) := by decide +kernel
theorem dX1_init_31 : decode cX1_init 31 = .ok (.iconst 0, 1) := by decide +kernel
theorem dX1_init_32 : decode cX1_init 32 = .ok (.putfield 25, 3) := by decide +kernel
theorem dX1_init_35 : decode cX1_init 35 = .ok (.aload_n 0, 1) := by decide +kernel
theorem dX1_init_36 : decode cX1_init 36 = .ok (.iconst 0, 1) := by decide +kernel
theorem dX1_init_37 : decode cX1_init 37 = .ok (.putfield 29, 3) := by decide +kernel
theorem dX1_init_40 : decode cX1_init 40 = .ok (.aload_n 0, 1) := by decide +kernel
theorem dX1_init_41 : decode cX1_init 41 = .ok (.iconst 0, 1) := by decide +kernel
theorem dX1_init_42 : decode cX1_init 42 = .ok (.putfield 32, 3) := by decide +kernel
theorem dX1_init_45 : decode cX1_init 45 = .ok (.aload_n 0, 1) := by decide +kernel
theorem dX1_init_46 : decode cX1_init 46 = .ok (.aload_n 1, 1) := by decide +kernel
theorem dX1_init_47 : decode cX1_init 47 = .ok (.putfield 35, 3) := by decide +kernel
theorem dX1_init_50 : decode cX1_init 50 = .ok (.return_, 1) := by decide +kernel
set_option maxRecDepth 20000 in
theorem ggX1_begin_J7_fill_53178 : GoodIn wsX1_begin wsJ7_fill_53178 := goodIn_sl _ [(8, 1)] rfl (by decide +kernel)
set_option maxRecDepth 20000 in
theorem gX1_begin_J7_fill_53178 : GoodIn wsX1_begin (va_wsS RX1 39 yJ7_fill_53178 wsJ7_fill_53178) := goodIn_app (goodIn_of _ (by decide +kernel)) ggX1_begin_J7_fill_53178
theorem dX1_begin_0 : decode cX1_begin 0 = .ok (.aload_n 0, 1) := by decide +kernel
theorem dX1_begin_1 : decode cX1_begin 1 = .ok (.iconst 1, 1) := by decide +kernel
theorem dX1_begin_2 : decode cX1_begin 2 = .ok (.putfield 9, 3) := by decide +kernel
theorem dX1_begin_5 : decode cX1_begin 5 = .ok (.aload_n 0, 1) := by decide +kernel
theorem dX1_begin_6 : decode cX1_begin 6 = .ok (.iconst 1, 1) := by decide +kernel
theorem dX1_begin_7 : decode cX1_begin 7 = .ok (.putfield 15, 3) := by decide +kernel
theorem dX1_begin_10 : decode cX1_begin 10 = .ok (.aload_n 0, 1) := by decide +kernel
theorem dX1_begin_11 : decode cX1_begin 11 = .ok (.getfield 18, 3) := by decide +kernel
theorem dX1_begin_14 : decode cX1_begin 14 = .ok (.iconst 0, 1) := by decide +kernel
theorem dX1_begin_15 : decode cX1_begin 15 = .ok (.invokestatic 39, 3) := by decide +kernel
theorem dX1_begin_18 : decode cX1_begin 18 = .ok (.aload_n 0, 1) := by decide +kernel
theorem dX1_begin_19 : decode cX1_begin 19 = .ok (.getfield 22, 3) := by decide +kernel
theorem dX1_begin_22 : decode cX1_begin 22 = .ok (.iconst (-1), 1) := by decide +kernel
theorem dX1_begin_23 : decode cX1_begin 23 = .ok (.invokestatic 39, 3) := by decide +kernel
theorem dX1_begin_26 : decode cX1_begin 26 = .ok (.return_, 1) := by decide +kernel
theorem dX1_cast_0 : decode cX1_cast 0 = .ok (.aload_n 0, 1) := by decide +kernel
theorem dX1_cast_1 : decode cX1_cast 1 = .ok (.getfield 18, 3) := by decide +kernel
theorem dX1_cast_4 : decode cX1_cast 4 = .ok (.iload_n 1, 1) := by decide +kernel
theorem dX1_cast_5 : decode cX1_cast 5 = .ok (.iload_n 2, 1) := by decide +kernel
theorem dX1_cast_6 : decode cX1_cast 6 = .ok (.ifCond .eq 7, 3) := by decide +kernel
theorem dX1_cast_9 : decode cX1_cast 9 = .ok (.iconst 1, 1) := by decide +kernel
theorem dX1_cast_10 : decode cX1_cast 10 = .ok (.goto 4, 3) := by decide +kernel
theorem dX1_cast_13 : decode cX1_cast 13 = .ok (.iconst 2, 1) := by decide +kernel
theorem dX1_cast_14 : decode cX1_cast 14 = .ok (.iastore, 1) := by decide +kernel
theorem dX1_cast_15 : decode cX1_cast 15 = .ok (.aload_n 0, 1) := by decide +kernel
theorem dX1_cast_16 : decode cX1_cast 16 = .ok (.getfield 22, 3) := by decide +kernel
theorem dX1_cast_19 : decode cX1_cast 19 = .ok (.iload_n 1, 1) := by decide +kernel
theorem dX1_cast_20 : decode cX1_cast 20 = .ok (.iconst (-1), 1) := by decide +kernel
theorem dX1_cast_21 : decode cX1_cast 21 = .ok (.iastore, 1) := by decide +kernel
theorem dX1_cast_22 : decode cX1_cast 22 = .ok (.return_, 1) := by decide +kernel
theorem dX1_forget_0 : decode cX1_forget 0 = .ok (.aload_n 0, 1) := by decide +kernel
theorem dX1_forget_1 : decode cX1_forget 1 = .ok (.getfield 18, 3) := by decide +kernel
theorem dX1_forget_4 : decode cX1_forget 4 = .ok (.iload_n 1, 1) := by decide +kernel
theorem dX1_forget_5 : decode cX1_forget 5 = .ok (.iconst 0, 1) := by decide +kernel
theorem dX1_forget_6 : decode cX1_forget 6 = .ok (.iastore, 1) := by decide +kernel
theorem dX1_forget_7 : decode cX1_forget 7 = .ok (.aload_n 0, 1) := by decide +kernel
theorem dX1_forget_8 : decode cX1_forget 8 = .ok (.getfield 22, 3) := by decide +kernel
theorem dX1_forget_11 : decode cX1_forget 11 = .ok (.iload_n 1, 1) := by decide +kernel
theorem dX1_forget_12 : decode cX1_forget 12 = .ok (.iconst (-1), 1) := by decide +kernel
theorem dX1_forget_13 : decode cX1_forget 13 = .ok (.iastore, 1) := by decide +kernel
theorem dX1_forget_14 : decode cX1_forget 14 = .ok (.return_, 1) := by decide +kernel
set_option maxRecDepth 20000 in
theorem ggX1_handOver_X2_isThere : GoodIn wsX1_handOver wsX2_isThere := goodIn_sl _ [(7, 5), (5, 1), (12, 2), (27, 12)] rfl (by decide +kernel)
set_option maxRecDepth 20000 in
theorem gX1_handOver_X2_isThere_n45 : GoodIn wsX1_handOver (wsX2_isThere) := ggX1_handOver_X2_isThere
set_option maxRecDepth 20000 in
theorem ggX1_handOver_X1_giversTo : GoodIn wsX1_handOver wsX1_giversTo := goodIn_sl _ [(18, 1), (1, 2), (19, 20)] rfl (by decide +kernel)
set_option maxRecDepth 20000 in
theorem gX1_handOver_X1_giversTo : GoodIn wsX1_handOver (wsV RX1 51 RX1 yX1_giversTo wsX1_giversTo) := goodIn_app (goodIn_of _ (by decide +kernel)) ggX1_handOver_X1_giversTo
theorem dX1_handOver_0 : decode cX1_handOver 0 = .ok (.iload_n 1, 1) := by decide +kernel
theorem dX1_handOver_1 : decode cX1_handOver 1 = .ok (.iload_n 2, 1) := by decide +kernel
theorem dX1_handOver_2 : decode cX1_handOver 2 = .ok (.if_icmp .eq 25, 3) := by decide +kernel
theorem dX1_handOver_5 : decode cX1_handOver 5 = .ok (.aload_n 0, 1) := by decide +kernel
theorem dX1_handOver_6 : decode cX1_handOver 6 = .ok (.getfield 35, 3) := by decide +kernel
theorem dX1_handOver_9 : decode cX1_handOver 9 = .ok (.iload_n 1, 1) := by decide +kernel
theorem dX1_handOver_10 : decode cX1_handOver 10 = .ok (.invokevirtual 45, 3) := by decide +kernel
theorem dX1_handOver_13 : decode cX1_handOver 13 = .ok (.ifCond .eq 14, 3) := by decide +kernel
theorem dX1_handOver_16 : decode cX1_handOver 16 = .ok (.aload_n 0, 1) := by decide +kernel
theorem dX1_handOver_17 : decode cX1_handOver 17 = .ok (.getfield 35, 3) := by decide +kernel
theorem dX1_handOver_20 : decode cX1_handOver 20 = .ok (.iload_n 2, 1) := by decide +kernel
theorem dX1_handOver_21 : decode cX1_handOver 21 = .ok (.invokevirtual 45, 3) := by decide +kernel
theorem dX1_handOver_24 : decode cX1_handOver 24 = .ok (.ifCond .ne 5, 3) := by decide +kernel
theorem dX1_handOver_27 : decode cX1_handOver 27 = .ok (.iconst 0, 1) := by decide +kernel
theorem dX1_handOver_28 : decode cX1_handOver 28 = .ok (.ireturn, 1) := by decide +kernel
theorem dX1_handOver_29 : decode cX1_handOver 29 = .ok (.aload_n 0, 1) := by decide +kernel
theorem dX1_handOver_30 : decode cX1_handOver 30 = .ok (.getfield 22, 3) := by decide +kernel
theorem dX1_handOver_33 : decode cX1_handOver 33 = .ok (.iload_n 2, 1) := by decide +kernel
theorem dX1_handOver_34 : decode cX1_handOver 34 = .ok (.iaload, 1) := by decide +kernel
theorem dX1_handOver_35 : decode cX1_handOver 35 = .ok (.iconst (-1), 1) := by decide +kernel
theorem dX1_handOver_36 : decode cX1_handOver 36 = .ok (.if_icmp .ne 22, 3) := by decide +kernel
theorem dX1_handOver_39 : decode cX1_handOver 39 = .ok (.aload_n 0, 1) := by decide +kernel
theorem dX1_handOver_40 : decode cX1_handOver 40 = .ok (.iload_n 1, 1) := by decide +kernel
theorem dX1_handOver_41 : decode cX1_handOver 41 = .ok (.iconst (-1), 1) := by decide +kernel
theorem dX1_handOver_42 : decode cX1_handOver 42 = .ok (.invokevirtual 51, 3) := by decide +kernel
theorem dX1_handOver_45 : decode cX1_handOver 45 = .ok (.ifCond .gt 13, 3) := by decide +kernel
theorem dX1_handOver_48 : decode cX1_handOver 48 = .ok (.aload_n 0, 1) := by decide +kernel
theorem dX1_handOver_49 : decode cX1_handOver 49 = .ok (.iload_n 2, 1) := by decide +kernel
theorem dX1_handOver_50 : decode cX1_handOver 50 = .ok (.iload_n 1, 1) := by decide +kernel
theorem dX1_handOver_51 : decode cX1_handOver 51 = .ok (.invokevirtual 51, 3) := by decide +kernel
theorem dX1_handOver_54 : decode cX1_handOver 54 = .ok (.iload_n 3, 1) := by decide +kernel
theorem dX1_handOver_55 : decode cX1_handOver 55 = .ok (.if_icmp .lt 5, 3) := by decide +kernel
theorem dX1_handOver_58 : decode cX1_handOver 58 = .ok (.iconst 0, 1) := by decide +kernel
theorem dX1_handOver_59 : decode cX1_handOver 59 = .ok (.ireturn, 1) := by decide +kernel
theorem dX1_handOver_60 : decode cX1_handOver 60 = .ok (.aload_n 0, 1) := by decide +kernel
theorem dX1_handOver_61 : decode cX1_handOver 61 = .ok (.getfield 18, 3) := by decide +kernel
theorem dX1_handOver_64 : decode cX1_handOver 64 = .ok (.iload_n 1, 1) := by decide +kernel
theorem dX1_handOver_65 : decode cX1_handOver 65 = .ok (.iconst 0, 1) := by decide +kernel
theorem dX1_handOver_66 : decode cX1_handOver 66 = .ok (.iastore, 1) := by decide +kernel
theorem dX1_handOver_67 : decode cX1_handOver 67 = .ok (.aload_n 0, 1) := by decide +kernel
theorem dX1_handOver_68 : decode cX1_handOver 68 = .ok (.getfield 22, 3) := by decide +kernel
theorem dX1_handOver_71 : decode cX1_handOver 71 = .ok (.iload_n 1, 1) := by decide +kernel
theorem dX1_handOver_72 : decode cX1_handOver 72 = .ok (.iload_n 2, 1) := by decide +kernel
theorem dX1_handOver_73 : decode cX1_handOver 73 = .ok (.iastore, 1) := by decide +kernel
theorem dX1_handOver_74 : decode cX1_handOver 74 = .ok (.iconst 1, 1) := by decide +kernel
theorem dX1_handOver_75 : decode cX1_handOver 75 = .ok (.ireturn, 1) := by decide +kernel
theorem dX1_giversTo_0 : decode cX1_giversTo 0 = .ok (.iconst 0, 1) := by decide +kernel
theorem dX1_giversTo_1 : decode cX1_giversTo 1 = .ok (.istore_n 3, 1) := by decide +kernel
theorem dX1_giversTo_2 : decode cX1_giversTo 2 = .ok (.iconst 0, 1) := by decide +kernel
theorem dX1_giversTo_3 : decode cX1_giversTo 3 = .ok (.istore 4, 2) := by decide +kernel
theorem dX1_giversTo_5 : decode cX1_giversTo 5 = .ok (.iload 4, 2) := by decide +kernel
theorem dX1_giversTo_7 : decode cX1_giversTo 7 = .ok (.aload_n 0, 1) := by decide +kernel
theorem dX1_giversTo_8 : decode cX1_giversTo 8 = .ok (.getfield 35, 3) := by decide +kernel
theorem dX1_giversTo_11 : decode cX1_giversTo 11 = .ok (.getfield 55, 3) := by decide +kernel
theorem dX1_giversTo_14 : decode cX1_giversTo 14 = .ok (.if_icmp .ge 29, 3) := by decide +kernel
theorem dX1_giversTo_17 : decode cX1_giversTo 17 = .ok (.iload 4, 2) := by decide +kernel
theorem dX1_giversTo_19 : decode cX1_giversTo 19 = .ok (.iload_n 2, 1) := by decide +kernel
theorem dX1_giversTo_20 : decode cX1_giversTo 20 = .ok (.if_icmp .eq 17, 3) := by decide +kernel
theorem dX1_giversTo_23 : decode cX1_giversTo 23 = .ok (.aload_n 0, 1) := by decide +kernel
theorem dX1_giversTo_24 : decode cX1_giversTo 24 = .ok (.getfield 22, 3) := by decide +kernel
theorem dX1_giversTo_27 : decode cX1_giversTo 27 = .ok (.iload 4, 2) := by decide +kernel
theorem dX1_giversTo_29 : decode cX1_giversTo 29 = .ok (.iaload, 1) := by decide +kernel
theorem dX1_giversTo_30 : decode cX1_giversTo 30 = .ok (.iload_n 1, 1) := by decide +kernel
theorem dX1_giversTo_31 : decode cX1_giversTo 31 = .ok (.if_icmp .ne 6, 3) := by decide +kernel
theorem dX1_giversTo_34 : decode cX1_giversTo 34 = .ok (.iinc 3 1, 3) := by decide +kernel
theorem dX1_giversTo_37 : decode cX1_giversTo 37 = .ok (.iinc 4 1, 3) := by decide +kernel
theorem dX1_giversTo_40 : decode cX1_giversTo 40 = .ok (.goto (-35), 3) := by decide +kernel
theorem dX1_giversTo_43 : decode cX1_giversTo 43 = .ok (.iload_n 3, 1) := by decide +kernel
theorem dX1_giversTo_44 : decode cX1_giversTo 44 = .ok (.ireturn, 1) := by decide +kernel
set_option maxRecDepth 20000 in
theorem ggX1_finish_X1_countUp : GoodIn wsX1_finish wsX1_countUp := goodIn_sl _ [(9, 1), (2, 2), (10, 1), (4, 1), (11, 13), (8, 1), (24, 23)] rfl (by decide +kernel)
set_option maxRecDepth 20000 in
theorem gX1_finish_X1_countUp : GoodIn wsX1_finish (wsV RX1 58 RX1 yX1_countUp wsX1_countUp) := goodIn_app (goodIn_of _ (by decide +kernel)) ggX1_finish_X1_countUp
theorem dX1_finish_0 : decode cX1_finish 0 = .ok (.aload_n 0, 1) := by decide +kernel
theorem dX1_finish_1 : decode cX1_finish 1 = .ok (.invokevirtual 58, 3) := by decide +kernel
theorem dX1_finish_4 : decode cX1_finish 4 = .ok (.aload_n 0, 1) := by decide +kernel
theorem dX1_finish_5 : decode cX1_finish 5 = .ok (.iconst 0, 1) := by decide +kernel
theorem dX1_finish_6 : decode cX1_finish 6 = .ok (.putfield 9, 3) := by decide +kernel
theorem dX1_finish_9 : decode cX1_finish 9 = .ok (.aload_n 0, 1) := by decide +kernel
theorem dX1_finish_10 : decode cX1_finish 10 = .ok (.getfield 25, 3) := by decide +kernel
theorem dX1_finish_13 : decode cX1_finish 13 = .ok (.aload_n 0, 1) := by decide +kernel
theorem dX1_finish_14 : decode cX1_finish 14 = .ok (.getfield 29, 3) := by decide +kernel
theorem dX1_finish_17 : decode cX1_finish 17 = .ok (.iadd, 1) := by decide +kernel
theorem dX1_finish_18 : decode cX1_finish 18 = .ok (.bipush 100, 2) := by decide +kernel
theorem dX1_finish_20 : decode cX1_finish 20 = .ok (.imul, 1) := by decide +kernel
theorem dX1_finish_21 : decode cX1_finish 21 = .ok (.iload_n 1, 1) := by decide +kernel
theorem dX1_finish_22 : decode cX1_finish 22 = .ok (.aload_n 0, 1) := by decide +kernel
theorem dX1_finish_23 : decode cX1_finish 23 = .ok (.getfield 35, 3) := by decide +kernel
theorem dX1_finish_26 : decode cX1_finish 26 = .ok (.getfield 61, 3) := by decide +kernel
theorem dX1_finish_29 : decode cX1_finish 29 = .ok (.imul, 1) := by decide +kernel
theorem dX1_finish_30 : decode cX1_finish 30 = .ok (.if_icmp .lt 18, 3) := by decide +kernel
theorem dX1_finish_33 : decode cX1_finish 33 = .ok (.aload_n 0, 1) := by decide +kernel
theorem dX1_finish_34 : decode cX1_finish 34 = .ok (.getfield 25, 3) := by decide +kernel
theorem dX1_finish_37 : decode cX1_finish 37 = .ok (.aload_n 0, 1) := by decide +kernel
theorem dX1_finish_38 : decode cX1_finish 38 = .ok (.getfield 29, 3) := by decide +kernel
theorem dX1_finish_41 : decode cX1_finish 41 = .ok (.if_icmp .le 7, 3) := by decide +kernel
theorem dX1_finish_44 : decode cX1_finish 44 = .ok (.iconst 1, 1) := by decide +kernel
theorem dX1_finish_45 : decode cX1_finish 45 = .ok (.goto 4, 3) := by decide +kernel
theorem dX1_finish_48 : decode cX1_finish 48 = .ok (.iconst 0, 1) := by decide +kernel
theorem dX1_finish_49 : decode cX1_finish 49 = .ok (.ireturn, 1) := by decide +kernel
set_option maxRecDepth 20000 in
theorem ggX1_countUp_X2_isThere : GoodIn wsX1_countUp wsX2_isThere := goodIn_sl _ [(8, 5), (6, 1), (13, 2), (30, 12)] rfl (by decide +kernel)
set_option maxRecDepth 20000 in
theorem gX1_countUp_X2_isThere_n45 : GoodIn wsX1_countUp (wsX2_isThere) := ggX1_countUp_X2_isThere
set_option maxRecDepth 20000 in
theorem ggX1_countUp_X1_countOne : GoodIn wsX1_countUp wsX1_countOne := goodIn_sl _ [(19, 3), (1, 3), (22, 8)] rfl (by decide +kernel)
set_option maxRecDepth 20000 in
theorem gX1_countUp_X1_countOne : GoodIn wsX1_countUp (wsV RX1 64 RX1 yX1_countOne wsX1_countOne) := goodIn_app (goodIn_of _ (by decide +kernel)) ggX1_countUp_X1_countOne
theorem dX1_countUp_0 : decode cX1_countUp 0 = .ok (.aload_n 0, 1) := by decide +kernel
theorem dX1_countUp_1 : decode cX1_countUp 1 = .ok (.iconst 0, 1) := by decide +kernel
theorem dX1_countUp_2 : decode cX1_countUp 2 = .ok (.putfield 25, 3) := by decide +kernel
theorem dX1_countUp_5 : decode cX1_countUp 5 = .ok (.aload_n 0, 1) := by decide +kernel
theorem dX1_countUp_6 : decode cX1_countUp 6 = .ok (.iconst 0, 1) := by decide +kernel
theorem dX1_countUp_7 : decode cX1_countUp 7 = .ok (.putfield 29, 3) := by decide +kernel
theorem dX1_countUp_10 : decode cX1_countUp 10 = .ok (.aload_n 0, 1) := by decide +kernel
theorem dX1_countUp_11 : decode cX1_countUp 11 = .ok (.iconst 0, 1) := by decide +kernel
theorem dX1_countUp_12 : decode cX1_countUp 12 = .ok (.putfield 32, 3) := by decide +kernel
theorem dX1_countUp_15 : decode cX1_countUp 15 = .ok (.iconst 0, 1) := by decide +kernel
theorem dX1_countUp_16 : decode cX1_countUp 16 = .ok (.istore_n 1, 1) := by decide +kernel
theorem dX1_countUp_17 : decode cX1_countUp 17 = .ok (.iload_n 1, 1) := by decide +kernel
theorem dX1_countUp_18 : decode cX1_countUp 18 = .ok (.aload_n 0, 1) := by decide +kernel
theorem dX1_countUp_19 : decode cX1_countUp 19 = .ok (.getfield 35, 3) := by decide +kernel
theorem dX1_countUp_22 : decode cX1_countUp 22 = .ok (.getfield 55, 3) := by decide +kernel
theorem dX1_countUp_25 : decode cX1_countUp 25 = .ok (.if_icmp .ge 25, 3) := by decide +kernel
theorem dX1_countUp_28 : decode cX1_countUp 28 = .ok (.aload_n 0, 1) := by decide +kernel
theorem dX1_countUp_29 : decode cX1_countUp 29 = .ok (.getfield 35, 3) := by decide +kernel
theorem dX1_countUp_32 : decode cX1_countUp 32 = .ok (.iload_n 1, 1) := by decide +kernel
theorem dX1_countUp_33 : decode cX1_countUp 33 = .ok (.invokevirtual 45, 3) := by decide +kernel
theorem dX1_countUp_36 : decode cX1_countUp 36 = .ok (.ifCond .eq 8, 3) := by decide +kernel
theorem dX1_countUp_39 : decode cX1_countUp 39 = .ok (.aload_n 0, 1) := by decide +kernel
theorem dX1_countUp_40 : decode cX1_countUp 40 = .ok (.iload_n 1, 1) := by decide +kernel
theorem dX1_countUp_41 : decode cX1_countUp 41 = .ok (.invokevirtual 64, 3) := by decide +kernel
theorem dX1_countUp_44 : decode cX1_countUp 44 = .ok (.iinc 1 1, 3) := by decide +kernel
theorem dX1_countUp_47 : decode cX1_countUp 47 = .ok (.goto (-30), 3) := by decide +kernel
theorem dX1_countUp_50 : decode cX1_countUp 50 = .ok (.return_, 1) := by decide +kernel
theorem dX1_countOne_0 : decode cX1_countOne 0 = .ok (.aload_n 0, 1) := by decide +kernel
theorem dX1_countOne_1 : decode cX1_countOne 1 = .ok (.getfield 22, 3) := by decide +kernel
theorem dX1_countOne_4 : decode cX1_countOne 4 = .ok (.iload_n 1, 1) := by decide +kernel
theorem dX1_countOne_5 : decode cX1_countOne 5 = .ok (.iaload, 1) := by decide +kernel
theorem dX1_countOne_6 : decode cX1_countOne 6 = .ok (.istore_n 2, 1) := by decide +kernel
theorem dX1_countOne_7 : decode cX1_countOne 7 = .ok (.iload_n 2, 1) := by decide +kernel
theorem dX1_countOne_8 : decode cX1_countOne 8 = .ok (.iconst (-1), 1) := by decide +kernel
theorem dX1_countOne_9 : decode cX1_countOne 9 = .ok (.if_icmp .ne 12, 3) := by decide +kernel
theorem dX1_countOne_12 : decode cX1_countOne 12 = .ok (.aload_n 0, 1) := by decide +kernel
theorem dX1_countOne_13 : decode cX1_countOne 13 = .ok (.getfield 18, 3) := by decide +kernel
theorem dX1_countOne_16 : decode cX1_countOne 16 = .ok (.iload_n 1, 1) := by decide +kernel
theorem dX1_countOne_17 : decode cX1_countOne 17 = .ok (.iaload, 1) := by decide +kernel
theorem dX1_countOne_18 : decode cX1_countOne 18 = .ok (.goto 9, 3) := by decide +kernel
theorem dX1_countOne_21 : decode cX1_countOne 21 = .ok (.aload_n 0, 1) := by decide +kernel
theorem dX1_countOne_22 : decode cX1_countOne 22 = .ok (.getfield 18, 3) := by decide +kernel
theorem dX1_countOne_25 : decode cX1_countOne 25 = .ok (.iload_n 2, 1) := by decide +kernel
theorem dX1_countOne_26 : decode cX1_countOne 26 = .ok (.iaload, 1) := by decide +kernel
theorem dX1_countOne_27 : decode cX1_countOne 27 = .ok (.istore_n 3, 1) := by decide +kernel
theorem dX1_countOne_28 : decode cX1_countOne 28 = .ok (.iload_n 3, 1) := by decide +kernel
theorem dX1_countOne_29 : decode cX1_countOne 29 = .ok (.iconst 1, 1) := by decide +kernel
theorem dX1_countOne_30 : decode cX1_countOne 30 = .ok (.if_icmp .ne 16, 3) := by decide +kernel
theorem dX1_countOne_33 : decode cX1_countOne 33 = .ok (.aload_n 0, 1) := by decide +kernel
theorem dX1_countOne_34 : decode cX1_countOne 34 = .ok (.dup, 1) := by decide +kernel
theorem dX1_countOne_35 : decode cX1_countOne 35 = .ok (.getfield 25, 3) := by decide +kernel
theorem dX1_countOne_38 : decode cX1_countOne 38 = .ok (.iconst 1, 1) := by decide +kernel
theorem dX1_countOne_39 : decode cX1_countOne 39 = .ok (.iadd, 1) := by decide +kernel
theorem dX1_countOne_40 : decode cX1_countOne 40 = .ok (.putfield 25, 3) := by decide +kernel
theorem dX1_countOne_43 : decode cX1_countOne 43 = .ok (.goto 31, 3) := by decide +kernel
theorem dX1_countOne_46 : decode cX1_countOne 46 = .ok (.iload_n 3, 1) := by decide +kernel
theorem dX1_countOne_47 : decode cX1_countOne 47 = .ok (.iconst 2, 1) := by decide +kernel
theorem dX1_countOne_48 : decode cX1_countOne 48 = .ok (.if_icmp .ne 16, 3) := by decide +kernel
theorem dX1_countOne_51 : decode cX1_countOne 51 = .ok (.aload_n 0, 1) := by decide +kernel
theorem dX1_countOne_52 : decode cX1_countOne 52 = .ok (.dup, 1) := by decide +kernel
theorem dX1_countOne_53 : decode cX1_countOne 53 = .ok (.getfield 29, 3) := by decide +kernel
theorem dX1_countOne_56 : decode cX1_countOne 56 = .ok (.iconst 1, 1) := by decide +kernel
theorem dX1_countOne_57 : decode cX1_countOne 57 = .ok (.iadd, 1) := by decide +kernel
theorem dX1_countOne_58 : decode cX1_countOne 58 = .ok (.putfield 29, 3) := by decide +kernel
theorem dX1_countOne_61 : decode cX1_countOne 61 = .ok (.goto 13, 3) := by decide +kernel
theorem dX1_countOne_64 : decode cX1_countOne 64 = .ok (.aload_n 0, 1) := by decide +kernel
theorem dX1_countOne_65 : decode cX1_countOne 65 = .ok (.dup, 1) := by decide +kernel
theorem dX1_countOne_66 : decode cX1_countOne 66 = .ok (.getfield 32, 3) := by decide +kernel
theorem dX1_countOne_69 : decode cX1_countOne 69 = .ok (.iconst 1, 1) := by decide +kernel
theorem dX1_countOne_70 : decode cX1_countOne 70 = .ok (.iadd, 1) := by decide +kernel
theorem dX1_countOne_71 : decode cX1_countOne 71 = .ok (.putfield 32, 3) := by decide +kernel
theorem dX1_countOne_74 : decode cX1_countOne 74 = .ok (.return_, 1) := by decide +kernel
set_option maxRecDepth 20000 in
theorem ggX1_tell_X1_countUp : GoodIn wsX1_tell wsX1_countUp := goodIn_sl _ [(10, 1), (3, 3), (11, 14), (9, 1), (25, 23)] rfl (by decide +kernel)
set_option maxRecDepth 20000 in
theorem gX1_tell_X1_countUp : GoodIn wsX1_tell (wsV RX1 58 RX1 yX1_countUp wsX1_countUp) := goodIn_app (goodIn_of _ (by decide +kernel)) ggX1_tell_X1_countUp
theorem dX1_tell_0 : decode cX1_tell 0 = .ok (.aload_n 0, 1) := by decide +kernel
theorem dX1_tell_1 : decode cX1_tell 1 = .ok (.getfield 15, 3) := by decide +kernel
theorem dX1_tell_4 : decode cX1_tell 4 = .ok (.ifCond .ne 5, 3) := by decide +kernel
theorem dX1_tell_7 : decode cX1_tell 7 = .ok (.iconst (-1), 1) := by decide +kernel
theorem dX1_tell_8 : decode cX1_tell 8 = .ok (.ireturn, 1) := by decide +kernel
theorem dX1_tell_9 : decode cX1_tell 9 = .ok (.aload_n 0, 1) := by decide +kernel
theorem dX1_tell_10 : decode cX1_tell 10 = .ok (.getfield 9, 3) := by decide +kernel
theorem dX1_tell_13 : decode cX1_tell 13 = .ok (.ifCond .eq 7, 3) := by decide +kernel
theorem dX1_tell_16 : decode cX1_tell 16 = .ok (.aload_n 0, 1) := by decide +kernel
theorem dX1_tell_17 : decode cX1_tell 17 = .ok (.invokevirtual 58, 3) := by decide +kernel
theorem dX1_tell_20 : decode cX1_tell 20 = .ok (.iload_n 1, 1) := by decide +kernel
theorem dX1_tell_21 : decode cX1_tell 21 = .ok (.tableswitch 59 0 3 #[31, 36, 41, 46], 31) := by decide +kernel
theorem dX1_tell_52 : decode cX1_tell 52 = .ok (.aload_n 0, 1) := by decide +kernel
theorem dX1_tell_53 : decode cX1_tell 53 = .ok (.getfield 25, 3) := by decide +kernel
theorem dX1_tell_56 : decode cX1_tell 56 = .ok (.ireturn, 1) := by decide +kernel
theorem dX1_tell_57 : decode cX1_tell 57 = .ok (.aload_n 0, 1) := by decide +kernel
theorem dX1_tell_58 : decode cX1_tell 58 = .ok (.getfield 29, 3) := by decide +kernel
theorem dX1_tell_61 : decode cX1_tell 61 = .ok (.ireturn, 1) := by decide +kernel
theorem dX1_tell_62 : decode cX1_tell 62 = .ok (.aload_n 0, 1) := by decide +kernel
theorem dX1_tell_63 : decode cX1_tell 63 = .ok (.getfield 32, 3) := by decide +kernel
theorem dX1_tell_66 : decode cX1_tell 66 = .ok (.ireturn, 1) := by decide +kernel
theorem dX1_tell_67 : decode cX1_tell 67 = .ok (.aload_n 0, 1) := by decide +kernel
theorem dX1_tell_68 : decode cX1_tell 68 = .ok (.getfield 9, 3) := by decide +kernel
theorem dX1_tell_71 : decode cX1_tell 71 = .ok (.ifCond .eq 7, 3) := by decide +kernel
theorem dX1_tell_74 : decode cX1_tell 74 = .ok (.iconst 1, 1) := by decide +kernel
theorem dX1_tell_75 : decode cX1_tell 75 = .ok (.goto 4, 3) := by decide +kernel
theorem dX1_tell_78 : decode cX1_tell 78 = .ok (.iconst 0, 1) := by decide +kernel
theorem dX1_tell_79 : decode cX1_tell 79 = .ok (.ireturn, 1) := by decide +kernel
theorem dX1_tell_80 : decode cX1_tell 80 = .ok (.iconst (-1), 1) := by decide +kernel
theorem dX1_tell_81 : decode cX1_tell 81 = .ok (.ireturn, 1) := by decide +kernel
theorem dX2_init_0 : decode cX2_init 0 = .ok (.aload_n 0, 1) := by decide +kernel
theorem dX2_init_1 : decode cX2_init 1 = .ok (.invokespecial 3, 3) := by decide +kernel
theorem dX2_init_4 : decode cX2_init 4 = .ok (.aload_n 0, 1) := by decide +kernel
theorem dX2_init_5 : decode cX2_init 5 = .ok (.iconst 0, 1) := by decide +kernel
theorem dX2_init_6 : decode cX2_init 6 = .ok (.putfield 9, 3) := by decide +kernel
theorem dX2_init_9 : decode cX2_init 9 = .ok (.aload_n 0, 1) := by decide +kernel
theorem dX2_init_10 : decode cX2_init 10 = .ok (.iconst 0, 1) := by decide +kernel
theorem dX2_init_11 : decode cX2_init 11 = .ok (.putfield 15, 3) := by decide +kernel
theorem dX2_init_14 : decode cX2_init 14 = .ok (.aload_n 0, 1) := by decide +kernel
theorem dX2_init_15 : decode cX2_init 15 = .ok (.iconst 0, 1) := by decide +kernel
theorem dX2_init_16 : decode cX2_init 16 = .ok (.putfield 18, 3) := by decide +kernel
theorem dX2_init_19 : decode cX2_init 19 = .ok (.aload_n 0, 1) := by decide +kernel
theorem dX2_init_20 : decode cX2_init 20 = .ok (.bipush 20, 2) := by decide +kernel
theorem dX2_init_22 : decode cX2_init 22 = .ok (.newarray .boolean, 2) := by decide +kernel
theorem dX2_init_24 : decode cX2_init 24 = .ok (.putfield 21, 3) := by decide +kernel
theorem dX2_init_27 : decode cX2_init 27 = .ok (.aload_n 0, 1) := by decide +kernel
theorem dX2_init_28 : decode cX2_init 28 = .ok (.bipush 20, 2) := by decide +kernel
theorem dX2_init_30 : decode cX2_init 30 = .ok (.newarray .int, 2) := by decide +kernel
theorem dX2_init_32 : decode cX2_init 32 = .ok (.putfield 25, 3) := by decide +kernel
theorem dX2_init_35 : decode cX2_init 35 = .ok (.aload_n 0, 1) := by decide +kernel
theorem dX2_init_36 : decode cX2_init 36 = .ok (.bipush 12, 2) := by decide +kernel
theorem dX2_init_38 : decode cX2_init 38 = .ok (.newarray .int, 2) := by decide +kernel
theorem dX2_init_40 : decode cX2_init 40 = .ok (.putfield 29, 3) := by decide +kernel
theorem dX2_init_43 : decode cX2_init 43 = .ok (.aload_n 0, 1) := by decide +kernel
theorem dX2_init_44 : decode cX2_init 44 = .ok (.bipush 12, 2) := by decide +kernel
theorem dX2_init_46 : decode cX2_init 46 = .ok (.newarray .int, 2) := by decide +kernel
theorem dX2_init_48 : decode cX2_init 48 = .ok (.putfield 32, 3) := by decide +kernel
theorem dX2_init_51 : decode cX2_init 51 = .ok (.aload_n 0, 1) := by decide +kernel
theorem dX2_init_52 : decode cX2_init 52 = .ok (.sipush 240, 3) := by decide +kernel
theorem dX2_init_55 : decode cX2_init 55 = .ok (.newarray .boolean, 2) := by decide +kernel
theorem dX2_init_57 : decode cX2_init 57 = .ok (.putfield 35, 3) := by decide +kernel
theorem dX2_init_60 : decode cX2_init 60 = .ok (.aload_n 0, 1) := by decide +kernel
theorem dX2_init_61 : decode cX2_init 61 = .ok (.iconst 0, 1) := by decide +kernel
theorem dX2_init_62 : decode cX2_init 62 = .ok (.putfield 38, 3) := by decide +kernel
theorem dX2_init_65 : decode cX2_init 65 = .ok (.aload_n 0, 1) := by decide +kernel
theorem dX2_init_66 : decode cX2_init 66 = .ok (.bipush 12, 2) := by decide +kernel
theorem dX2_init_68 : decode cX2_init 68 = .ok (.newarray .int, 2) := by decide +kernel
theorem dX2_init_70 : decode cX2_init 70 = .ok (.putfield 41, 3) := by decide +kernel
theorem dX2_init_73 : decode cX2_init 73 = .ok (.aload_n 0, 1) := by decide +kernel
theorem dX2_init_74 : decode cX2_init 74 = .ok (.bipush 12, 2) := by decide +kernel
theorem dX2_init_76 : decode cX2_init 76 = .ok (.newarray .int, 2) := by decide +kernel
theorem dX2_init_78 : decode cX2_init 78 = .ok (.putfield 44, 3) := by decide +kernel
theorem dX2_init_81 : decode cX2_init 81 = .ok (.aload_n 0, 1) := by decide +kernel
theorem dX2_init_82 : decode cX2_init 82 = .ok (.bipush 12, 2) := by decide +kernel
theorem dX2_init_84 : decode cX2_init 84 = .ok (.newarray .int, 2) := by decide +kernel
theorem dX2_init_86 : decode cX2_init 86 = .ok (.putfield 47, 3) := by decide +kernel
theorem dX2_init_89 : decode cX2_init 89 = .ok (.return_, 1) := by decide +kernel
theorem dX2_hasCanon_0 : decode cX2_hasCanon 0 = .ok (.iload_n 1, 1) := by decide +kernel
theorem dX2_hasCanon_1 : decode cX2_hasCanon 1 = .ok (.ifCond .lt 15, 3) := by decide +kernel
theorem dX2_hasCanon_4 : decode cX2_hasCanon 4 = .ok (.iload_n 1, 1) := by decide +kernel
theorem dX2_hasCanon_5 : decode cX2_hasCanon 5 = .ok (.aload_n 0, 1) := by decide +kernel
theorem dX2_hasCanon_6 : decode cX2_hasCanon 6 = .ok (.getfield 9, 3) := by decide +kernel
theorem dX2_hasCanon_9 : decode cX2_hasCanon 9 = .ok (.if_icmp .ge 7, 3) := by decide +kernel
theorem dX2_hasCanon_12 : decode cX2_hasCanon 12 = .ok (.iconst 1, 1) := by decide +kernel
theorem dX2_hasCanon_13 : decode cX2_hasCanon 13 = .ok (.goto 4, 3) := by decide +kernel
theorem dX2_hasCanon_16 : decode cX2_hasCanon 16 = .ok (.iconst 0, 1) := by decide +kernel
theorem dX2_hasCanon_17 : decode cX2_hasCanon 17 = .ok (.ireturn, 1) := by decide +kernel
set_option maxRecDepth 20000 in
theorem ggX2_isThere_X2_hasCanon : GoodIn wsX2_isThere wsX2_hasCanon := goodIn_sl _ [(6, 14)] rfl (by decide +kernel)
set_option maxRecDepth 20000 in
theorem gX2_isThere_X2_hasCanon : GoodIn wsX2_isThere (wsV RX2 50 RX2 yX2_hasCanon wsX2_hasCanon) := goodIn_app (goodIn_of _ (by decide +kernel)) ggX2_isThere_X2_hasCanon
theorem dX2_isThere_0 : decode cX2_isThere 0 = .ok (.aload_n 0, 1) := by decide +kernel
theorem dX2_isThere_1 : decode cX2_isThere 1 = .ok (.iload_n 1, 1) := by decide +kernel
theorem dX2_isThere_2 : decode cX2_isThere 2 = .ok (.invokevirtual 50, 3) := by decide +kernel
theorem dX2_isThere_5 : decode cX2_isThere 5 = .ok (.ifCond .eq 16, 3) := by decide +kernel
theorem dX2_isThere_8 : decode cX2_isThere 8 = .ok (.aload_n 0, 1) := by decide +kernel
theorem dX2_isThere_9 : decode cX2_isThere 9 = .ok (.getfield 21, 3) := by decide +kernel
theorem dX2_isThere_12 : decode cX2_isThere 12 = .ok (.iload_n 1, 1) := by decide +kernel
theorem dX2_isThere_13 : decode cX2_isThere 13 = .ok (.baload, 1) := by decide +kernel
theorem dX2_isThere_14 : decode cX2_isThere 14 = .ok (.ifCond .eq 7, 3) := by decide +kernel
theorem dX2_isThere_17 : decode cX2_isThere 17 = .ok (.iconst 1, 1) := by decide +kernel
theorem dX2_isThere_18 : decode cX2_isThere 18 = .ok (.goto 4, 3) := by decide +kernel
theorem dX2_isThere_21 : decode cX2_isThere 21 = .ok (.iconst 0, 1) := by decide +kernel
theorem dX2_isThere_22 : decode cX2_isThere 22 = .ok (.ireturn, 1) := by decide +kernel
theorem dX2_hasStall_0 : decode cX2_hasStall 0 = .ok (.iload_n 1, 1) := by decide +kernel
theorem dX2_hasStall_1 : decode cX2_hasStall 1 = .ok (.ifCond .lt 15, 3) := by decide +kernel
theorem dX2_hasStall_4 : decode cX2_hasStall 4 = .ok (.iload_n 1, 1) := by decide +kernel
theorem dX2_hasStall_5 : decode cX2_hasStall 5 = .ok (.aload_n 0, 1) := by decide +kernel
theorem dX2_hasStall_6 : decode cX2_hasStall 6 = .ok (.getfield 18, 3) := by decide +kernel
theorem dX2_hasStall_9 : decode cX2_hasStall 9 = .ok (.if_icmp .ge 7, 3) := by decide +kernel
theorem dX2_hasStall_12 : decode cX2_hasStall 12 = .ok (.iconst 1, 1) := by decide +kernel
theorem dX2_hasStall_13 : decode cX2_hasStall 13 = .ok (.goto 4, 3) := by decide +kernel
theorem dX2_hasStall_16 : decode cX2_hasStall 16 = .ok (.iconst 0, 1) := by decide +kernel
theorem dX2_hasStall_17 : decode cX2_hasStall 17 = .ok (.ireturn, 1) := by decide +kernel
set_option maxRecDepth 20000 in
theorem ggX2_holderOf_X2_hasStall : GoodIn wsX2_holderOf wsX2_hasStall := goodIn_sl _ [(6, 14)] rfl (by decide +kernel)
set_option maxRecDepth 20000 in
theorem gX2_holderOf_X2_hasStall : GoodIn wsX2_holderOf (wsV RX2 54 RX2 yX2_hasStall wsX2_hasStall) := goodIn_app (goodIn_of _ (by decide +kernel)) ggX2_holderOf_X2_hasStall
theorem dX2_holderOf_0 : decode cX2_holderOf 0 = .ok (.aload_n 0, 1) := by decide +kernel
theorem dX2_holderOf_1 : decode cX2_holderOf 1 = .ok (.iload_n 1, 1) := by decide +kernel
theorem dX2_holderOf_2 : decode cX2_holderOf 2 = .ok (.invokevirtual 54, 3) := by decide +kernel
theorem dX2_holderOf_5 : decode cX2_holderOf 5 = .ok (.ifCond .eq 12, 3) := by decide +kernel
theorem dX2_holderOf_8 : decode cX2_holderOf 8 = .ok (.aload_n 0, 1) := by decide +kernel
theorem dX2_holderOf_9 : decode cX2_holderOf 9 = .ok (.getfield 32, 3) := by decide +kernel
theorem dX2_holderOf_12 : decode cX2_holderOf 12 = .ok (.iload_n 1, 1) := by decide +kernel
theorem dX2_holderOf_13 : decode cX2_holderOf 13 = .ok (.iaload, 1) := by decide +kernel
theorem dX2_holderOf_14 : decode cX2_holderOf 14 = .ok (.goto 4, 3) := by decide +kernel
theorem dX2_holderOf_17 : decode cX2_holderOf 17 = .ok (.iconst (-1), 1) := by decide +kernel
theorem dX2_holderOf_18 : decode cX2_holderOf 18 = .ok (.ireturn, 1) := by decide +kernel
theorem dX2_worthOf_0 : decode cX2_worthOf 0 = .ok (.aload_n 0, 1) := by decide +kernel
theorem dX2_worthOf_1 : decode cX2_worthOf 1 = .ok (.getfield 25, 3) := by decide +kernel
theorem dX2_worthOf_4 : decode cX2_worthOf 4 = .ok (.iload_n 1, 1) := by decide +kernel
theorem dX2_worthOf_5 : decode cX2_worthOf 5 = .ok (.iaload, 1) := by decide +kernel
theorem dX2_worthOf_6 : decode cX2_worthOf 6 = .ok (.istore_n 2, 1) := by decide +kernel
theorem dX2_worthOf_7 : decode cX2_worthOf 7 = .ok (.iload_n 2, 1) := by decide +kernel
theorem dX2_worthOf_8 : decode cX2_worthOf 8 = .ok (.iconst (-1), 1) := by decide +kernel
theorem dX2_worthOf_9 : decode cX2_worthOf 9 = .ok (.if_icmp .ne 7, 3) := by decide +kernel
theorem dX2_worthOf_12 : decode cX2_worthOf 12 = .ok (.iconst 0, 1) := by decide +kernel
theorem dX2_worthOf_13 : decode cX2_worthOf 13 = .ok (.goto 9, 3) := by decide +kernel
theorem dX2_worthOf_16 : decode cX2_worthOf 16 = .ok (.aload_n 0, 1) := by decide +kernel
theorem dX2_worthOf_17 : decode cX2_worthOf 17 = .ok (.getfield 29, 3) := by decide +kernel
theorem dX2_worthOf_20 : decode cX2_worthOf 20 = .ok (.iload_n 2, 1) := by decide +kernel
theorem dX2_worthOf_21 : decode cX2_worthOf 21 = .ok (.iaload, 1) := by decide +kernel
theorem dX2_worthOf_22 : decode cX2_worthOf 22 = .ok (.ireturn, 1) := by decide +kernel
set_option maxRecDepth 20000 in
theorem ggX2_addStall_X2_fall : GoodIn wsX2_addStall wsX2_fall := goodIn_sl _ [(8, 5), (7, 1), (13, 9), (2, 1), (22, 11), (3, 1), (33, 12)] rfl (by decide +kernel)
set_option maxRecDepth 20000 in
theorem gX2_addStall_X2_fall : GoodIn wsX2_addStall (wsV RX2 57 RX2 yX2_fall wsX2_fall) := goodIn_app (goodIn_of _ (by decide +kernel)) ggX2_addStall_X2_fall
theorem dX2_addStall_0 : decode cX2_addStall 0 = .ok (.aload_n 0, 1) := by decide +kernel
theorem dX2_addStall_1 : decode cX2_addStall 1 = .ok (.getfield 18, 3) := by decide +kernel
theorem dX2_addStall_4 : decode cX2_addStall 4 = .ok (.bipush 12, 2) := by decide +kernel
theorem dX2_addStall_6 : decode cX2_addStall 6 = .ok (.if_icmp .ne 5, 3) := by decide +kernel
theorem dX2_addStall_9 : decode cX2_addStall 9 = .ok (.iconst (-1), 1) := by decide +kernel
theorem dX2_addStall_10 : decode cX2_addStall 10 = .ok (.ireturn, 1) := by decide +kernel
theorem dX2_addStall_11 : decode cX2_addStall 11 = .ok (.aload_n 0, 1) := by decide +kernel
theorem dX2_addStall_12 : decode cX2_addStall 12 = .ok (.getfield 18, 3) := by decide +kernel
theorem dX2_addStall_15 : decode cX2_addStall 15 = .ok (.istore_n 2, 1) := by decide +kernel
theorem dX2_addStall_16 : decode cX2_addStall 16 = .ok (.aload_n 0, 1) := by decide +kernel
theorem dX2_addStall_17 : decode cX2_addStall 17 = .ok (.dup, 1) := by decide +kernel
theorem dX2_addStall_18 : decode cX2_addStall 18 = .ok (.getfield 18, 3) := by decide +kernel
theorem dX2_addStall_21 : decode cX2_addStall 21 = .ok (.iconst 1, 1) := by decide +kernel
theorem dX2_addStall_22 : decode cX2_addStall 22 = .ok (.iadd, 1) := by decide +kernel
theorem dX2_addStall_23 : decode cX2_addStall 23 = .ok (.putfield 18, 3) := by decide +kernel
theorem dX2_addStall_26 : decode cX2_addStall 26 = .ok (.aload_n 0, 1) := by decide +kernel
theorem dX2_addStall_27 : decode cX2_addStall 27 = .ok (.getfield 29, 3) := by decide +kernel
theorem dX2_addStall_30 : decode cX2_addStall 30 = .ok (.iload_n 2, 1) := by decide +kernel
theorem dX2_addStall_31 : decode cX2_addStall 31 = .ok (.iload_n 1, 1) := by decide +kernel
theorem dX2_addStall_32 : decode cX2_addStall 32 = .ok (.iastore, 1) := by decide +kernel
theorem dX2_addStall_33 : decode cX2_addStall 33 = .ok (.aload_n 0, 1) := by decide +kernel
theorem dX2_addStall_34 : decode cX2_addStall 34 = .ok (.getfield 32, 3) := by decide +kernel
theorem dX2_addStall_37 : decode cX2_addStall 37 = .ok (.iload_n 2, 1) := by decide +kernel
theorem dX2_addStall_38 : decode cX2_addStall 38 = .ok (.iconst (-1), 1) := by decide +kernel
theorem dX2_addStall_39 : decode cX2_addStall 39 = .ok (.iastore, 1) := by decide +kernel
theorem dX2_addStall_40 : decode cX2_addStall 40 = .ok (.aload_n 0, 1) := by decide +kernel
theorem dX2_addStall_41 : decode cX2_addStall 41 = .ok (.iload_n 2, 1) := by decide +kernel
theorem dX2_addStall_42 : decode cX2_addStall 42 = .ok (.invokevirtual 57, 3) := by decide +kernel
theorem dX2_addStall_45 : decode cX2_addStall 45 = .ok (.iload_n 2, 1) := by decide +kernel
theorem dX2_addStall_46 : decode cX2_addStall 46 = .ok (.ireturn, 1) := by decide +kernel
theorem dX2_addCanon_0 : decode cX2_addCanon 0 = .ok (.aload_n 0, 1) := by decide +kernel
theorem dX2_addCanon_1 : decode cX2_addCanon 1 = .ok (.getfield 9, 3) := by decide +kernel
theorem dX2_addCanon_4 : decode cX2_addCanon 4 = .ok (.bipush 20, 2) := by decide +kernel
theorem dX2_addCanon_6 : decode cX2_addCanon 6 = .ok (.if_icmp .ne 5, 3) := by decide +kernel
theorem dX2_addCanon_9 : decode cX2_addCanon 9 = .ok (.iconst (-1), 1) := by decide +kernel
theorem dX2_addCanon_10 : decode cX2_addCanon 10 = .ok (.ireturn, 1) := by decide +kernel
theorem dX2_addCanon_11 : decode cX2_addCanon 11 = .ok (.aload_n 0, 1) := by decide +kernel
theorem dX2_addCanon_12 : decode cX2_addCanon 12 = .ok (.getfield 9, 3) := by decide +kernel
theorem dX2_addCanon_15 : decode cX2_addCanon 15 = .ok (.istore_n 1, 1) := by decide +kernel
theorem dX2_addCanon_16 : decode cX2_addCanon 16 = .ok (.aload_n 0, 1) := by decide +kernel
theorem dX2_addCanon_17 : decode cX2_addCanon 17 = .ok (.dup, 1) := by decide +kernel
theorem dX2_addCanon_18 : decode cX2_addCanon 18 = .ok (.getfield 9, 3) := by decide +kernel
theorem dX2_addCanon_21 : decode cX2_addCanon 21 = .ok (.iconst 1, 1) := by decide +kernel
theorem dX2_addCanon_22 : decode cX2_addCanon 22 = .ok (.iadd, 1) := by decide +kernel
theorem dX2_addCanon_23 : decode cX2_addCanon 23 = .ok (.putfield 9, 3) := by decide +kernel
theorem dX2_addCanon_26 : decode cX2_addCanon 26 = .ok (.aload_n 0, 1) := by decide +kernel
theorem dX2_addCanon_27 : decode cX2_addCanon 27 = .ok (.dup, 1) := by decide +kernel
theorem dX2_addCanon_28 : decode cX2_addCanon 28 = .ok (.getfield 15, 3) := by decide +kernel
theorem dX2_addCanon_31 : decode cX2_addCanon 31 = .ok (.iconst 1, 1) := by decide +kernel
theorem dX2_addCanon_32 : decode cX2_addCanon 32 = .ok (.iadd, 1) := by decide +kernel
theorem dX2_addCanon_33 : decode cX2_addCanon 33 = .ok (.putfield 15, 3) := by decide +kernel
theorem dX2_addCanon_36 : decode cX2_addCanon 36 = .ok (.aload_n 0, 1) := by decide +kernel
theorem dX2_addCanon_37 : decode cX2_addCanon 37 = .ok (.getfield 21, 3) := by decide +kernel
theorem dX2_addCanon_40 : decode cX2_addCanon 40 = .ok (.iload_n 1, 1) := by decide +kernel
theorem dX2_addCanon_41 : decode cX2_addCanon 41 = .ok (.iconst 1, 1) := by decide +kernel
theorem dX2_addCanon_42 : decode cX2_addCanon 42 = .ok (.bastore, 1) := by decide +kernel
theorem dX2_addCanon_43 : decode cX2_addCanon 43 = .ok (.aload_n 0, 1) := by decide +kernel
theorem dX2_addCanon_44 : decode cX2_addCanon 44 = .ok (.getfield 25, 3) := by decide +kernel
theorem dX2_addCanon_47 : decode cX2_addCanon 47 = .ok (.iload_n 1, 1) := by decide +kernel
theorem dX2_addCanon_48 : decode cX2_addCanon 48 = .ok (.iconst (-1), 1) := by decide +kernel
theorem dX2_addCanon_49 : decode cX2_addCanon 49 = .ok (.iastore, 1) := by decide +kernel
theorem dX2_addCanon_50 : decode cX2_addCanon 50 = .ok (.iload_n 1, 1) := by decide +kernel
theorem dX2_addCanon_51 : decode cX2_addCanon 51 = .ok (.ireturn, 1) := by decide +kernel
theorem dX2_setWish_0 : decode cX2_setWish 0 = .ok (.iload_n 1, 1) := by decide +kernel
theorem dX2_setWish_1 : decode cX2_setWish 1 = .ok (.bipush 12, 2) := by decide +kernel
theorem dX2_setWish_3 : decode cX2_setWish 3 = .ok (.imul, 1) := by decide +kernel
theorem dX2_setWish_4 : decode cX2_setWish 4 = .ok (.iload_n 2, 1) := by decide +kernel
theorem dX2_setWish_5 : decode cX2_setWish 5 = .ok (.iadd, 1) := by decide +kernel
theorem dX2_setWish_6 : decode cX2_setWish 6 = .ok (.istore 4, 2) := by decide +kernel
theorem dX2_setWish_8 : decode cX2_setWish 8 = .ok (.aload_n 0, 1) := by decide +kernel
theorem dX2_setWish_9 : decode cX2_setWish 9 = .ok (.getfield 35, 3) := by decide +kernel
theorem dX2_setWish_12 : decode cX2_setWish 12 = .ok (.iload 4, 2) := by decide +kernel
theorem dX2_setWish_14 : decode cX2_setWish 14 = .ok (.baload, 1) := by decide +kernel
theorem dX2_setWish_15 : decode cX2_setWish 15 = .ok (.iload_n 3, 1) := by decide +kernel
theorem dX2_setWish_16 : decode cX2_setWish 16 = .ok (.if_icmp .eq 7, 3) := by decide +kernel
theorem dX2_setWish_19 : decode cX2_setWish 19 = .ok (.iconst 1, 1) := by decide +kernel
theorem dX2_setWish_20 : decode cX2_setWish 20 = .ok (.goto 4, 3) := by decide +kernel
theorem dX2_setWish_23 : decode cX2_setWish 23 = .ok (.iconst 0, 1) := by decide +kernel
theorem dX2_setWish_24 : decode cX2_setWish 24 = .ok (.istore 5, 2) := by decide +kernel
theorem dX2_setWish_26 : decode cX2_setWish 26 = .ok (.aload_n 0, 1) := by decide +kernel
theorem dX2_setWish_27 : decode cX2_setWish 27 = .ok (.getfield 35, 3) := by decide +kernel
theorem dX2_setWish_30 : decode cX2_setWish 30 = .ok (.iload 4, 2) := by decide +kernel
theorem dX2_setWish_32 : decode cX2_setWish 32 = .ok (.iload_n 3, 1) := by decide +kernel
theorem dX2_setWish_33 : decode cX2_setWish 33 = .ok (.bastore, 1) := by decide +kernel
theorem dX2_setWish_34 : decode cX2_setWish 34 = .ok (.iload 5, 2) := by decide +kernel
theorem dX2_setWish_36 : decode cX2_setWish 36 = .ok (.ireturn, 1) := by decide +kernel
theorem dX2_sitDown_0 : decode cX2_sitDown 0 = .ok (.aload_n 0, 1) := by decide +kernel
theorem dX2_sitDown_1 : decode cX2_sitDown 1 = .ok (.getfield 25, 3) := by decide +kernel
theorem dX2_sitDown_4 : decode cX2_sitDown 4 = .ok (.iload_n 1, 1) := by decide +kernel
theorem dX2_sitDown_5 : decode cX2_sitDown 5 = .ok (.iaload, 1) := by decide +kernel
theorem dX2_sitDown_6 : decode cX2_sitDown 6 = .ok (.iconst (-1), 1) := by decide +kernel
theorem dX2_sitDown_7 : decode cX2_sitDown 7 = .ok (.if_icmp .ne 13, 3) := by decide +kernel
theorem dX2_sitDown_10 : decode cX2_sitDown 10 = .ok (.aload_n 0, 1) := by decide +kernel
theorem dX2_sitDown_11 : decode cX2_sitDown 11 = .ok (.getfield 32, 3) := by decide +kernel
theorem dX2_sitDown_14 : decode cX2_sitDown 14 = .ok (.iload_n 2, 1) := by decide +kernel
theorem dX2_sitDown_15 : decode cX2_sitDown 15 = .ok (.iaload, 1) := by decide +kernel
theorem dX2_sitDown_16 : decode cX2_sitDown 16 = .ok (.iconst (-1), 1) := by decide +kernel
theorem dX2_sitDown_17 : decode cX2_sitDown 17 = .ok (.if_icmp .eq 5, 3) := by decide +kernel
theorem dX2_sitDown_20 : decode cX2_sitDown 20 = .ok (.iconst 0, 1) := by decide +kernel
theorem dX2_sitDown_21 : decode cX2_sitDown 21 = .ok (.ireturn, 1) := by decide +kernel
theorem dX2_sitDown_22 : decode cX2_sitDown 22 = .ok (.aload_n 0, 1) := by decide +kernel
theorem dX2_sitDown_23 : decode cX2_sitDown 23 = .ok (.getfield 25, 3) := by decide +kernel
theorem dX2_sitDown_26 : decode cX2_sitDown 26 = .ok (.iload_n 1, 1) := by decide +kernel
theorem dX2_sitDown_27 : decode cX2_sitDown 27 = .ok (.iload_n 2, 1) := by decide +kernel
theorem dX2_sitDown_28 : decode cX2_sitDown 28 = .ok (.iastore, 1) := by decide +kernel
theorem dX2_sitDown_29 : decode cX2_sitDown 29 = .ok (.aload_n 0, 1) := by decide +kernel
theorem dX2_sitDown_30 : decode cX2_sitDown 30 = .ok (.getfield 32, 3) := by decide +kernel
theorem dX2_sitDown_33 : decode cX2_sitDown 33 = .ok (.iload_n 2, 1) := by decide +kernel
theorem dX2_sitDown_34 : decode cX2_sitDown 34 = .ok (.iload_n 1, 1) := by decide +kernel
theorem dX2_sitDown_35 : decode cX2_sitDown 35 = .ok (.iastore, 1) := by decide +kernel
theorem dX2_sitDown_36 : decode cX2_sitDown 36 = .ok (.iconst 1, 1) := by decide +kernel
theorem dX2_sitDown_37 : decode cX2_sitDown 37 = .ok (.ireturn, 1) := by decide +kernel
set_option maxRecDepth 20000 in
theorem ggX2_depart_X2_fall : GoodIn wsX2_depart wsX2_fall := goodIn_sl _ [(10, 1), (5, 1), (11, 3), (9, 1), (14, 2), (2, 1), (16, 5), (1, 1), (21, 12), (4, 1), (33, 12)] rfl (by decide +kernel)
set_option maxRecDepth 20000 in
theorem gX2_depart_X2_fall : GoodIn wsX2_depart (wsV RX2 57 RX2 yX2_fall wsX2_fall) := goodIn_app (goodIn_of _ (by decide +kernel)) ggX2_depart_X2_fall
theorem dX2_depart_0 : decode cX2_depart 0 = .ok (.aload_n 0, 1) := by decide +kernel
theorem dX2_depart_1 : decode cX2_depart 1 = .ok (.getfield 25, 3) := by decide +kernel
theorem dX2_depart_4 : decode cX2_depart 4 = .ok (.iload_n 1, 1) := by decide +kernel
theorem dX2_depart_5 : decode cX2_depart 5 = .ok (.iaload, 1) := by decide +kernel
theorem dX2_depart_6 : decode cX2_depart 6 = .ok (.istore_n 2, 1) := by decide +kernel
theorem dX2_depart_7 : decode cX2_depart 7 = .ok (.aload_n 0, 1) := by decide +kernel
theorem dX2_depart_8 : decode cX2_depart 8 = .ok (.getfield 21, 3) := by decide +kernel
theorem dX2_depart_11 : decode cX2_depart 11 = .ok (.iload_n 1, 1) := by decide +kernel
theorem dX2_depart_12 : decode cX2_depart 12 = .ok (.iconst 0, 1) := by decide +kernel
theorem dX2_depart_13 : decode cX2_depart 13 = .ok (.bastore, 1) := by decide +kernel
theorem dX2_depart_14 : decode cX2_depart 14 = .ok (.aload_n 0, 1) := by decide +kernel
theorem dX2_depart_15 : decode cX2_depart 15 = .ok (.dup, 1) := by decide +kernel
theorem dX2_depart_16 : decode cX2_depart 16 = .ok (.getfield 15, 3) := by decide +kernel
theorem dX2_depart_19 : decode cX2_depart 19 = .ok (.iconst 1, 1) := by decide +kernel
theorem dX2_depart_20 : decode cX2_depart 20 = .ok (.isub, 1) := by decide +kernel
theorem dX2_depart_21 : decode cX2_depart 21 = .ok (.putfield 15, 3) := by decide +kernel
theorem dX2_depart_24 : decode cX2_depart 24 = .ok (.aload_n 0, 1) := by decide +kernel
theorem dX2_depart_25 : decode cX2_depart 25 = .ok (.getfield 25, 3) := by decide +kernel
theorem dX2_depart_28 : decode cX2_depart 28 = .ok (.iload_n 1, 1) := by decide +kernel
theorem dX2_depart_29 : decode cX2_depart 29 = .ok (.iconst (-1), 1) := by decide +kernel
theorem dX2_depart_30 : decode cX2_depart 30 = .ok (.iastore, 1) := by decide +kernel
theorem dX2_depart_31 : decode cX2_depart 31 = .ok (.iload_n 2, 1) := by decide +kernel
theorem dX2_depart_32 : decode cX2_depart 32 = .ok (.iconst (-1), 1) := by decide +kernel
theorem dX2_depart_33 : decode cX2_depart 33 = .ok (.if_icmp .eq 10, 3) := by decide +kernel
theorem dX2_depart_36 : decode cX2_depart 36 = .ok (.aload_n 0, 1) := by decide +kernel
theorem dX2_depart_37 : decode cX2_depart 37 = .ok (.getfield 32, 3) := by decide +kernel
theorem dX2_depart_40 : decode cX2_depart 40 = .ok (.iload_n 2, 1) := by decide +kernel
theorem dX2_depart_41 : decode cX2_depart 41 = .ok (.iconst (-1), 1) := by decide +kernel
theorem dX2_depart_42 : decode cX2_depart 42 = .ok (.iastore, 1) := by decide +kernel
theorem dX2_depart_43 : decode cX2_depart 43 = .ok (.aload_n 0, 1) := by decide +kernel
theorem dX2_depart_44 : decode cX2_depart 44 = .ok (.iload_n 2, 1) := by decide +kernel
theorem dX2_depart_45 : decode cX2_depart 45 = .ok (.invokevirtual 57, 3) := by decide +kernel
theorem dX2_depart_48 : decode cX2_depart 48 = .ok (.aload_n 0, 1) := by decide +kernel
theorem dX2_depart_49 : decode cX2_depart 49 = .ok (.getfield 38, 3) := by decide +kernel
theorem dX2_depart_52 : decode cX2_depart 52 = .ok (.ireturn, 1) := by decide +kernel
set_option maxRecDepth 20000 in
theorem ggX2_fall_X2_firstOptant : GoodIn wsX2_fall wsX2_firstOptant := goodIn_sl _ [(6, 7), (5, 1), (13, 7), (28, 12)] rfl (by decide +kernel)
set_option maxRecDepth 20000 in
theorem gX2_fall_X2_firstOptant : GoodIn wsX2_fall (wsV RX2 61 RX2 yX2_firstOptant wsX2_firstOptant) := goodIn_app (goodIn_of _ (by decide +kernel)) ggX2_fall_X2_firstOptant
set_option maxRecDepth 20000 in
theorem ggX2_fall_X2_moveTo : GoodIn wsX2_fall wsX2_moveTo := goodIn_sl _ [(23, 1), (14, 1), (24, 1), (1, 1), (25, 15)] rfl (by decide +kernel)
set_option maxRecDepth 20000 in
theorem gX2_fall_X2_moveTo : GoodIn wsX2_fall (wsV RX2 65 RX2 yX2_moveTo wsX2_moveTo) := goodIn_app (goodIn_of _ (by decide +kernel)) ggX2_fall_X2_moveTo
theorem dX2_fall_0 : decode cX2_fall 0 = .ok (.aload_n 0, 1) := by decide +kernel
theorem dX2_fall_1 : decode cX2_fall 1 = .ok (.iconst 0, 1) := by decide +kernel
theorem dX2_fall_2 : decode cX2_fall 2 = .ok (.putfield 38, 3) := by decide +kernel
theorem dX2_fall_5 : decode cX2_fall 5 = .ok (.iload_n 1, 1) := by decide +kernel
theorem dX2_fall_6 : decode cX2_fall 6 = .ok (.istore_n 2, 1) := by decide +kernel
theorem dX2_fall_7 : decode cX2_fall 7 = .ok (.iconst 0, 1) := by decide +kernel
theorem dX2_fall_8 : decode cX2_fall 8 = .ok (.istore_n 3, 1) := by decide +kernel
theorem dX2_fall_9 : decode cX2_fall 9 = .ok (.iload_n 3, 1) := by decide +kernel
theorem dX2_fall_10 : decode cX2_fall 10 = .ok (.bipush 12, 2) := by decide +kernel
theorem dX2_fall_12 : decode cX2_fall 12 = .ok (.if_icmp .ge 39, 3) := by decide +kernel
theorem dX2_fall_15 : decode cX2_fall 15 = .ok (.iload_n 2, 1) := by decide +kernel
theorem dX2_fall_16 : decode cX2_fall 16 = .ok (.iconst (-1), 1) := by decide +kernel
theorem dX2_fall_17 : decode cX2_fall 17 = .ok (.if_icmp .eq 34, 3) := by decide +kernel
theorem dX2_fall_20 : decode cX2_fall 20 = .ok (.aload_n 0, 1) := by decide +kernel
theorem dX2_fall_21 : decode cX2_fall 21 = .ok (.iload_n 2, 1) := by decide +kernel
theorem dX2_fall_22 : decode cX2_fall 22 = .ok (.invokevirtual 61, 3) := by decide +kernel
theorem dX2_fall_25 : decode cX2_fall 25 = .ok (.istore 4, 2) := by decide +kernel
theorem dX2_fall_27 : decode cX2_fall 27 = .ok (.iload 4, 2) := by decide +kernel
theorem dX2_fall_29 : decode cX2_fall 29 = .ok (.iconst (-1), 1) := by decide +kernel
theorem dX2_fall_30 : decode cX2_fall 30 = .ok (.if_icmp .ne 7, 3) := by decide +kernel
theorem dX2_fall_33 : decode cX2_fall 33 = .ok (.iconst (-1), 1) := by decide +kernel
theorem dX2_fall_34 : decode cX2_fall 34 = .ok (.goto 10, 3) := by decide +kernel
theorem dX2_fall_37 : decode cX2_fall 37 = .ok (.aload_n 0, 1) := by decide +kernel
theorem dX2_fall_38 : decode cX2_fall 38 = .ok (.iload 4, 2) := by decide +kernel
theorem dX2_fall_40 : decode cX2_fall 40 = .ok (.iload_n 2, 1) := by decide +kernel
theorem dX2_fall_41 : decode cX2_fall 41 = .ok (.invokevirtual 65, 3) := by decide +kernel
theorem dX2_fall_44 : decode cX2_fall 44 = .ok (.istore_n 2, 1) := by decide +kernel
theorem dX2_fall_45 : decode cX2_fall 45 = .ok (.iinc 3 1, 3) := by decide +kernel
theorem dX2_fall_48 : decode cX2_fall 48 = .ok (.goto (-39), 3) := by decide +kernel
theorem dX2_fall_51 : decode cX2_fall 51 = .ok (.return_, 1) := by decide +kernel
set_option maxRecDepth 20000 in
theorem ggX2_firstOptant_X2_gainsBy : GoodIn wsX2_firstOptant wsX2_gainsBy := goodIn_sl _ [(8, 6), (7, 1), (14, 13)] rfl (by decide +kernel)
set_option maxRecDepth 20000 in
theorem gX2_firstOptant_X2_gainsBy : GoodIn wsX2_firstOptant (wsV RX2 69 RX2 yX2_gainsBy wsX2_gainsBy) := goodIn_app (goodIn_of _ (by decide +kernel)) ggX2_firstOptant_X2_gainsBy
theorem dX2_firstOptant_0 : decode cX2_firstOptant 0 = .ok (.iconst 0, 1) := by decide +kernel
theorem dX2_firstOptant_1 : decode cX2_firstOptant 1 = .ok (.istore_n 2, 1) := by decide +kernel
theorem dX2_firstOptant_2 : decode cX2_firstOptant 2 = .ok (.iload_n 2, 1) := by decide +kernel
theorem dX2_firstOptant_3 : decode cX2_firstOptant 3 = .ok (.aload_n 0, 1) := by decide +kernel
theorem dX2_firstOptant_4 : decode cX2_firstOptant 4 = .ok (.getfield 9, 3) := by decide +kernel
theorem dX2_firstOptant_7 : decode cX2_firstOptant 7 = .ok (.if_icmp .ge 43, 3) := by decide +kernel
theorem dX2_firstOptant_10 : decode cX2_firstOptant 10 = .ok (.aload_n 0, 1) := by decide +kernel
theorem dX2_firstOptant_11 : decode cX2_firstOptant 11 = .ok (.getfield 21, 3) := by decide +kernel
theorem dX2_firstOptant_14 : decode cX2_firstOptant 14 = .ok (.iload_n 2, 1) := by decide +kernel
theorem dX2_firstOptant_15 : decode cX2_firstOptant 15 = .ok (.baload, 1) := by decide +kernel
theorem dX2_firstOptant_16 : decode cX2_firstOptant 16 = .ok (.ifCond .eq 28, 3) := by decide +kernel
theorem dX2_firstOptant_19 : decode cX2_firstOptant 19 = .ok (.aload_n 0, 1) := by decide +kernel
theorem dX2_firstOptant_20 : decode cX2_firstOptant 20 = .ok (.getfield 35, 3) := by decide +kernel
theorem dX2_firstOptant_23 : decode cX2_firstOptant 23 = .ok (.iload_n 2, 1) := by decide +kernel
theorem dX2_firstOptant_24 : decode cX2_firstOptant 24 = .ok (.bipush 12, 2) := by decide +kernel
theorem dX2_firstOptant_26 : decode cX2_firstOptant 26 = .ok (.imul, 1) := by decide +kernel
theorem dX2_firstOptant_27 : decode cX2_firstOptant 27 = .ok (.iload_n 1, 1) := by decide +kernel
theorem dX2_firstOptant_28 : decode cX2_firstOptant 28 = .ok (.iadd, 1) := by decide +kernel
theorem dX2_firstOptant_29 : decode cX2_firstOptant 29 = .ok (.baload, 1) := by decide +kernel
theorem dX2_firstOptant_30 : decode cX2_firstOptant 30 = .ok (.ifCond .eq 14, 3) := by decide +kernel
theorem dX2_firstOptant_33 : decode cX2_firstOptant 33 = .ok (.aload_n 0, 1) := by decide +kernel
theorem dX2_firstOptant_34 : decode cX2_firstOptant 34 = .ok (.iload_n 2, 1) := by decide +kernel
theorem dX2_firstOptant_35 : decode cX2_firstOptant 35 = .ok (.iload_n 1, 1) := by decide +kernel
theorem dX2_firstOptant_36 : decode cX2_firstOptant 36 = .ok (.invokevirtual 69, 3) := by decide +kernel
theorem dX2_firstOptant_39 : decode cX2_firstOptant 39 = .ok (.ifCond .eq 5, 3) := by decide +kernel
theorem dX2_firstOptant_42 : decode cX2_firstOptant 42 = .ok (.iload_n 2, 1) := by decide +kernel
theorem dX2_firstOptant_43 : decode cX2_firstOptant 43 = .ok (.ireturn, 1) := by decide +kernel
theorem dX2_firstOptant_44 : decode cX2_firstOptant 44 = .ok (.iinc 2 1, 3) := by decide +kernel
theorem dX2_firstOptant_47 : decode cX2_firstOptant 47 = .ok (.goto (-45), 3) := by decide +kernel
theorem dX2_firstOptant_50 : decode cX2_firstOptant 50 = .ok (.iconst (-1), 1) := by decide +kernel
theorem dX2_firstOptant_51 : decode cX2_firstOptant 51 = .ok (.ireturn, 1) := by decide +kernel
set_option maxRecDepth 20000 in
theorem ggX2_gainsBy_X2_worthOf : GoodIn wsX2_gainsBy wsX2_worthOf := goodIn_sl _ [(7, 1), (1, 2), (8, 12)] rfl (by decide +kernel)
set_option maxRecDepth 20000 in
theorem gX2_gainsBy_X2_worthOf : GoodIn wsX2_gainsBy (wsV RX2 73 RX2 yX2_worthOf wsX2_worthOf) := goodIn_app (goodIn_of _ (by decide +kernel)) ggX2_gainsBy_X2_worthOf
theorem dX2_gainsBy_0 : decode cX2_gainsBy 0 = .ok (.aload_n 0, 1) := by decide +kernel
theorem dX2_gainsBy_1 : decode cX2_gainsBy 1 = .ok (.getfield 25, 3) := by decide +kernel
theorem dX2_gainsBy_4 : decode cX2_gainsBy 4 = .ok (.iload_n 1, 1) := by decide +kernel
theorem dX2_gainsBy_5 : decode cX2_gainsBy 5 = .ok (.iaload, 1) := by decide +kernel
theorem dX2_gainsBy_6 : decode cX2_gainsBy 6 = .ok (.iconst (-1), 1) := by decide +kernel
theorem dX2_gainsBy_7 : decode cX2_gainsBy 7 = .ok (.if_icmp .eq 17, 3) := by decide +kernel
theorem dX2_gainsBy_10 : decode cX2_gainsBy 10 = .ok (.aload_n 0, 1) := by decide +kernel
theorem dX2_gainsBy_11 : decode cX2_gainsBy 11 = .ok (.iload_n 1, 1) := by decide +kernel
theorem dX2_gainsBy_12 : decode cX2_gainsBy 12 = .ok (.invokevirtual 73, 3) := by decide +kernel
theorem dX2_gainsBy_15 : decode cX2_gainsBy 15 = .ok (.aload_n 0, 1) := by decide +kernel
theorem dX2_gainsBy_16 : decode cX2_gainsBy 16 = .ok (.getfield 29, 3) := by decide +kernel
theorem dX2_gainsBy_19 : decode cX2_gainsBy 19 = .ok (.iload_n 2, 1) := by decide +kernel
theorem dX2_gainsBy_20 : decode cX2_gainsBy 20 = .ok (.iaload, 1) := by decide +kernel
theorem dX2_gainsBy_21 : decode cX2_gainsBy 21 = .ok (.if_icmp .ge 7, 3) := by decide +kernel
theorem dX2_gainsBy_24 : decode cX2_gainsBy 24 = .ok (.iconst 1, 1) := by decide +kernel
theorem dX2_gainsBy_25 : decode cX2_gainsBy 25 = .ok (.goto 4, 3) := by decide +kernel
theorem dX2_gainsBy_28 : decode cX2_gainsBy 28 = .ok (.iconst 0, 1) := by decide +kernel
theorem dX2_gainsBy_29 : decode cX2_gainsBy 29 = .ok (.ireturn, 1) := by decide +kernel
theorem dX2_moveTo_0 : decode cX2_moveTo 0 = .ok (.aload_n 0, 1) := by decide +kernel
theorem dX2_moveTo_1 : decode cX2_moveTo 1 = .ok (.getfield 25, 3) := by decide +kernel
theorem dX2_moveTo_4 : decode cX2_moveTo 4 = .ok (.iload_n 1, 1) := by decide +kernel
theorem dX2_moveTo_5 : decode cX2_moveTo 5 = .ok (.iaload, 1) := by decide +kernel
theorem dX2_moveTo_6 : decode cX2_moveTo 6 = .ok (.istore_n 3, 1) := by decide +kernel
theorem dX2_moveTo_7 : decode cX2_moveTo 7 = .ok (.aload_n 0, 1) := by decide +kernel
theorem dX2_moveTo_8 : decode cX2_moveTo 8 = .ok (.getfield 41, 3) := by decide +kernel
theorem dX2_moveTo_11 : decode cX2_moveTo 11 = .ok (.aload_n 0, 1) := by decide +kernel
theorem dX2_moveTo_12 : decode cX2_moveTo 12 = .ok (.getfield 38, 3) := by decide +kernel
theorem dX2_moveTo_15 : decode cX2_moveTo 15 = .ok (.iload_n 1, 1) := by decide +kernel
theorem dX2_moveTo_16 : decode cX2_moveTo 16 = .ok (.iastore, 1) := by decide +kernel
theorem dX2_moveTo_17 : decode cX2_moveTo 17 = .ok (.aload_n 0, 1) := by decide +kernel
theorem dX2_moveTo_18 : decode cX2_moveTo 18 = .ok (.getfield 44, 3) := by decide +kernel
theorem dX2_moveTo_21 : decode cX2_moveTo 21 = .ok (.aload_n 0, 1) := by decide +kernel
theorem dX2_moveTo_22 : decode cX2_moveTo 22 = .ok (.getfield 38, 3) := by decide +kernel
theorem dX2_moveTo_25 : decode cX2_moveTo 25 = .ok (.iload_n 3, 1) := by decide +kernel
theorem dX2_moveTo_26 : decode cX2_moveTo 26 = .ok (.iastore, 1) := by decide +kernel
theorem dX2_moveTo_27 : decode cX2_moveTo 27 = .ok (.aload_n 0, 1) := by decide +kernel
theorem dX2_moveTo_28 : decode cX2_moveTo 28 = .ok (.getfield 47, 3) := by decide +kernel
theorem dX2_moveTo_31 : decode cX2_moveTo 31 = .ok (.aload_n 0, 1) := by decide +kernel
theorem dX2_moveTo_32 : decode cX2_moveTo 32 = .ok (.getfield 38, 3) := by decide +kernel
theorem dX2_moveTo_35 : decode cX2_moveTo 35 = .ok (.iload_n 2, 1) := by decide +kernel
theorem dX2_moveTo_36 : decode cX2_moveTo 36 = .ok (.iastore, 1) := by decide +kernel
theorem dX2_moveTo_37 : decode cX2_moveTo 37 = .ok (.aload_n 0, 1) := by decide +kernel
theorem dX2_moveTo_38 : decode cX2_moveTo 38 = .ok (.dup, 1) := by decide +kernel
theorem dX2_moveTo_39 : decode cX2_moveTo 39 = .ok (.getfield 38, 3) := by decide +kernel
theorem dX2_moveTo_42 : decode cX2_moveTo 42 = .ok (.iconst 1, 1) := by decide +kernel
theorem dX2_moveTo_43 : decode cX2_moveTo 43 = .ok (.iadd, 1) := by decide +kernel
theorem dX2_moveTo_44 : decode cX2_moveTo 44 = .ok (.putfield 38, 3) := by decide +kernel
theorem dX2_moveTo_47 : decode cX2_moveTo 47 = .ok (.aload_n 0, 1) := by decide +kernel
theorem dX2_moveTo_48 : decode cX2_moveTo 48 = .ok (.getfield 25, 3) := by decide +kernel
theorem dX2_moveTo_51 : decode cX2_moveTo 51 = .ok (.iload_n 1, 1) := by decide +kernel
theorem dX2_moveTo_52 : decode cX2_moveTo 52 = .ok (.iload_n 2, 1) := by decide +kernel
theorem dX2_moveTo_53 : decode cX2_moveTo 53 = .ok (.iastore, 1) := by decide +kernel
theorem dX2_moveTo_54 : decode cX2_moveTo 54 = .ok (.aload_n 0, 1) := by decide +kernel
theorem dX2_moveTo_55 : decode cX2_moveTo 55 = .ok (.getfield 32, 3) := by decide +kernel
theorem dX2_moveTo_58 : decode cX2_moveTo 58 = .ok (.iload_n 2, 1) := by decide +kernel
theorem dX2_moveTo_59 : decode cX2_moveTo 59 = .ok (.iload_n 1, 1) := by decide +kernel
theorem dX2_moveTo_60 : decode cX2_moveTo 60 = .ok (.iastore, 1) := by decide +kernel
theorem dX2_moveTo_61 : decode cX2_moveTo 61 = .ok (.iload_n 3, 1) := by decide +kernel
theorem dX2_moveTo_62 : decode cX2_moveTo 62 = .ok (.iconst (-1), 1) := by decide +kernel
theorem dX2_moveTo_63 : decode cX2_moveTo 63 = .ok (.if_icmp .eq 10, 3) := by decide +kernel
theorem dX2_moveTo_66 : decode cX2_moveTo 66 = .ok (.aload_n 0, 1) := by decide +kernel
theorem dX2_moveTo_67 : decode cX2_moveTo 67 = .ok (.getfield 32, 3) := by decide +kernel
theorem dX2_moveTo_70 : decode cX2_moveTo 70 = .ok (.iload_n 3, 1) := by decide +kernel
theorem dX2_moveTo_71 : decode cX2_moveTo 71 = .ok (.iconst (-1), 1) := by decide +kernel
theorem dX2_moveTo_72 : decode cX2_moveTo 72 = .ok (.iastore, 1) := by decide +kernel
theorem dX2_moveTo_73 : decode cX2_moveTo 73 = .ok (.iload_n 3, 1) := by decide +kernel
theorem dX2_moveTo_74 : decode cX2_moveTo 74 = .ok (.ireturn, 1) := by decide +kernel
theorem dX2_tellMove_0 : decode cX2_tellMove 0 = .ok (.iload_n 1, 1) := by decide +kernel
theorem dX2_tellMove_1 : decode cX2_tellMove 1 = .ok (.ifCond .lt 11, 3) := by decide +kernel
theorem dX2_tellMove_4 : decode cX2_tellMove 4 = .ok (.iload_n 1, 1) := by decide +kernel
theorem dX2_tellMove_5 : decode cX2_tellMove 5 = .ok (.aload_n 0, 1) := by decide +kernel
theorem dX2_tellMove_6 : decode cX2_tellMove 6 = .ok (.getfield 38, 3) := by decide +kernel
theorem dX2_tellMove_9 : decode cX2_tellMove 9 = .ok (.if_icmp .lt 5, 3) := by decide +kernel
theorem dX2_tellMove_12 : decode cX2_tellMove 12 = .ok (.iconst (-1), 1) := by decide +kernel
theorem dX2_tellMove_13 : decode cX2_tellMove 13 = .ok (.ireturn, 1) := by decide +kernel
theorem dX2_tellMove_14 : decode cX2_tellMove 14 = .ok (.iload_n 2, 1) := by decide +kernel
theorem dX2_tellMove_15 : decode cX2_tellMove 15 = .ok (.tableswitch 46 0 2 #[25, 32, 39], 25) := by decide +kernel
theorem dX2_tellMove_40 : decode cX2_tellMove 40 = .ok (.aload_n 0, 1) := by decide +kernel
theorem dX2_tellMove_41 : decode cX2_tellMove 41 = .ok (.getfield 41, 3) := by decide +kernel
theorem dX2_tellMove_44 : decode cX2_tellMove 44 = .ok (.iload_n 1, 1) := by decide +kernel
theorem dX2_tellMove_45 : decode cX2_tellMove 45 = .ok (.iaload, 1) := by decide +kernel
theorem dX2_tellMove_46 : decode cX2_tellMove 46 = .ok (.ireturn, 1) := by decide +kernel
theorem dX2_tellMove_47 : decode cX2_tellMove 47 = .ok (.aload_n 0, 1) := by decide +kernel
theorem dX2_tellMove_48 : decode cX2_tellMove 48 = .ok (.getfield 44, 3) := by decide +kernel
theorem dX2_tellMove_51 : decode cX2_tellMove 51 = .ok (.iload_n 1, 1) := by decide +kernel
theorem dX2_tellMove_52 : decode cX2_tellMove 52 = .ok (.iaload, 1) := by decide +kernel
theorem dX2_tellMove_53 : decode cX2_tellMove 53 = .ok (.ireturn, 1) := by decide +kernel
theorem dX2_tellMove_54 : decode cX2_tellMove 54 = .ok (.aload_n 0, 1) := by decide +kernel
theorem dX2_tellMove_55 : decode cX2_tellMove 55 = .ok (.getfield 47, 3) := by decide +kernel
theorem dX2_tellMove_58 : decode cX2_tellMove 58 = .ok (.iload_n 1, 1) := by decide +kernel
theorem dX2_tellMove_59 : decode cX2_tellMove 59 = .ok (.iaload, 1) := by decide +kernel
theorem dX2_tellMove_60 : decode cX2_tellMove 60 = .ok (.ireturn, 1) := by decide +kernel
theorem dX2_tellMove_61 : decode cX2_tellMove 61 = .ok (.iconst (-1), 1) := by decide +kernel
theorem dX2_tellMove_62 : decode cX2_tellMove 62 = .ok (.ireturn, 1) := by decide +kernel

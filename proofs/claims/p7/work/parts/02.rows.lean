theorem dX0_init_0 : decode cX0_init 0 = .ok (.aload_n 0, 1) := by decide +kernel
theorem dX0_init_1 : decode cX0_init 1 = .ok (.invokespecial 1, 3) := by decide +kernel
theorem dX0_init_4 : decode cX0_init 4 = .ok (.return_, 1) := by decide +kernel
set_option maxRecDepth 20000 in
theorem ggX0_kind_X0_formOf : GoodIn wsX0_kind wsX0_formOf := goodIn_rc _ [4] [5] rfl (by decide +kernel) (by decide +kernel)
set_option maxRecDepth 20000 in
theorem gX0_kind_X0_formOf : GoodIn wsX0_kind (va_wsS RX0 7 yX0_formOf wsX0_formOf) := goodIn_app (goodIn_of _ (by decide +kernel)) ggX0_kind_X0_formOf
set_option maxRecDepth 20000 in
theorem ggX0_kind_X0_isAllowed : GoodIn wsX0_kind wsX0_isAllowed := goodIn_rc _ [8, 11, 14, 17, 20, 23, 26, 29, 32] [9, 10, 3, 12, 13, 15, 16, 18, 19, 21, 22, 24, 25, 27, 28, 30, 31] rfl (by decide +kernel) (by decide +kernel)
set_option maxRecDepth 20000 in
theorem gX0_kind_X0_isAllowed : GoodIn wsX0_kind (va_wsS RX0 13 yX0_isAllowed wsX0_isAllowed) := goodIn_app (goodIn_of _ (by decide +kernel)) ggX0_kind_X0_isAllowed
theorem dX0_kind_0 : decode cX0_kind 0 = .ok (.iload_n 1, 1) := by decide +kernel
theorem dX0_kind_1 : decode cX0_kind 1 = .ok (.invokestatic 7, 3) := by decide +kernel
theorem dX0_kind_4 : decode cX0_kind 4 = .ok (.istore_n 2, 1) := by decide +kernel
theorem dX0_kind_5 : decode cX0_kind 5 = .ok (.iload_n 2, 1) := by decide +kernel
theorem dX0_kind_6 : decode cX0_kind 6 = .ok (.iload_n 1, 1) := by decide +kernel
theorem dX0_kind_7 : decode cX0_kind 7 = .ok (.invokestatic 13, 3) := by decide +kernel
theorem dX0_kind_10 : decode cX0_kind 10 = .ok (.ifCond .eq 7, 3) := by decide +kernel
theorem dX0_kind_13 : decode cX0_kind 13 = .ok (.iload_n 2, 1) := by decide +kernel
theorem dX0_kind_14 : decode cX0_kind 14 = .ok (.goto 4, 3) := by decide +kernel
theorem dX0_kind_17 : decode cX0_kind 17 = .ok (.iconst 0, 1) := by decide +kernel
theorem dX0_kind_18 : decode cX0_kind 18 = .ok (.ireturn, 1) := by decide +kernel
set_option maxRecDepth 20000 in
theorem ggX0_by_X0_kind : GoodIn wsX0_by wsX0_kind := goodIn_rc _ [5, 8, 12, 15, 18, 21, 24, 27, 30, 33, 36] [6, 7, 4, 9, 10, 11, 13, 14, 16, 17, 19, 20, 22, 23, 25, 26, 28, 29, 31, 32, 34, 35] rfl (by decide +kernel) (by decide +kernel)
set_option maxRecDepth 20000 in
theorem gX0_by_X0_kind : GoodIn wsX0_by (wsV RX0 17 RX0 yX0_kind wsX0_kind) := goodIn_app (goodIn_of _ (by decide +kernel)) ggX0_by_X0_kind
set_option maxRecDepth 20000 in
theorem ggX0_by_X0_isGoing : GoodIn wsX0_by wsX0_isGoing := goodIn_rc _ [39] [] rfl (by decide +kernel) (by decide +kernel)
set_option maxRecDepth 20000 in
theorem gX0_by_X0_isGoing : GoodIn wsX0_by (va_wsS RX0 20 yX0_isGoing wsX0_isGoing) := goodIn_app (goodIn_of _ (by decide +kernel)) ggX0_by_X0_isGoing
set_option maxRecDepth 20000 in
theorem ggX0_by_X0_distancePlace : GoodIn wsX0_by wsX0_distancePlace := goodIn_rc _ [42] [] rfl (by decide +kernel) (by decide +kernel)
set_option maxRecDepth 20000 in
theorem gX0_by_X0_distancePlace : GoodIn wsX0_by (va_wsS RX0 24 yX0_distancePlace wsX0_distancePlace) := goodIn_app (goodIn_of _ (by decide +kernel)) ggX0_by_X0_distancePlace
set_option maxRecDepth 20000 in
theorem ggX0_by_X0_distanceWidth : GoodIn wsX0_by wsX0_distanceWidth := goodIn_rc _ [45] [] rfl (by decide +kernel) (by decide +kernel)
set_option maxRecDepth 20000 in
theorem gX0_by_X0_distanceWidth : GoodIn wsX0_by (va_wsS RX0 27 yX0_distanceWidth wsX0_distanceWidth) := goodIn_app (goodIn_of _ (by decide +kernel)) ggX0_by_X0_distanceWidth
set_option maxRecDepth 20000 in
theorem ggX0_by_X0_signedBits : GoodIn wsX0_by wsX0_signedBits := goodIn_rc _ [48] [] rfl (by decide +kernel) (by decide +kernel)
set_option maxRecDepth 20000 in
theorem gX0_by_X0_signedBits : GoodIn wsX0_by (va_wsS RX0 30 yX0_signedBits wsX0_signedBits) := goodIn_app (goodIn_of _ (by decide +kernel)) ggX0_by_X0_signedBits
theorem dX0_by_0 : decode cX0_by 0 = .ok (.aload_n 0, 1) := by decide +kernel
theorem dX0_by_1 : decode cX0_by 1 = .ok (.iload_n 1, 1) := by decide +kernel
theorem dX0_by_2 : decode cX0_by 2 = .ok (.invokevirtual 17, 3) := by decide +kernel
theorem dX0_by_5 : decode cX0_by 5 = .ok (.istore_n 2, 1) := by decide +kernel
theorem dX0_by_6 : decode cX0_by 6 = .ok (.iload_n 2, 1) := by decide +kernel
theorem dX0_by_7 : decode cX0_by 7 = .ok (.invokestatic 20, 3) := by decide +kernel
theorem dX0_by_10 : decode cX0_by 10 = .ok (.ifCond .ne 5, 3) := by decide +kernel
theorem dX0_by_13 : decode cX0_by 13 = .ok (.iconst 1, 1) := by decide +kernel
theorem dX0_by_14 : decode cX0_by 14 = .ok (.ireturn, 1) := by decide +kernel
theorem dX0_by_15 : decode cX0_by 15 = .ok (.iload_n 1, 1) := by decide +kernel
theorem dX0_by_16 : decode cX0_by 16 = .ok (.iload_n 2, 1) := by decide +kernel
theorem dX0_by_17 : decode cX0_by 17 = .ok (.invokestatic 24, 3) := by decide +kernel
theorem dX0_by_20 : decode cX0_by 20 = .ok (.iload_n 2, 1) := by decide +kernel
theorem dX0_by_21 : decode cX0_by 21 = .ok (.invokestatic 27, 3) := by decide +kernel
theorem dX0_by_24 : decode cX0_by 24 = .ok (.invokestatic 30, 3) := by decide +kernel
theorem dX0_by_27 : decode cX0_by 27 = .ok (.iconst 4, 1) := by decide +kernel
theorem dX0_by_28 : decode cX0_by 28 = .ok (.imul, 1) := by decide +kernel
theorem dX0_by_29 : decode cX0_by 29 = .ok (.ireturn, 1) := by decide +kernel
set_option maxRecDepth 20000 in
theorem ggX0_going_X0_kind : GoodIn wsX0_going wsX0_kind := goodIn_rc _ [5, 8, 12, 15, 18, 21, 24, 27, 30, 33, 36] [6, 7, 4, 9, 10, 11, 13, 14, 16, 17, 19, 20, 22, 23, 25, 26, 28, 29, 31, 32, 34, 35] rfl (by decide +kernel) (by decide +kernel)
set_option maxRecDepth 20000 in
theorem gX0_going_X0_kind : GoodIn wsX0_going (wsV RX0 17 RX0 yX0_kind wsX0_kind) := goodIn_app (goodIn_of _ (by decide +kernel)) ggX0_going_X0_kind
set_option maxRecDepth 20000 in
theorem ggX0_going_X0_isWithinReach : GoodIn wsX0_going wsX0_isWithinReach := goodIn_rc _ [39, 43, 46] [40, 41, 42, 4, 44, 45] rfl (by decide +kernel) (by decide +kernel)
set_option maxRecDepth 20000 in
theorem gX0_going_X0_isWithinReach : GoodIn wsX0_going (va_wsS RX0 34 yX0_isWithinReach wsX0_isWithinReach) := goodIn_app (goodIn_of _ (by decide +kernel)) ggX0_going_X0_isWithinReach
set_option maxRecDepth 20000 in
theorem ggX0_going_X0_distancePlace : GoodIn wsX0_going wsX0_distancePlace := goodIn_rc _ [49] [] rfl (by decide +kernel) (by decide +kernel)
set_option maxRecDepth 20000 in
theorem gX0_going_X0_distancePlace : GoodIn wsX0_going (va_wsS RX0 24 yX0_distancePlace wsX0_distancePlace) := goodIn_app (goodIn_of _ (by decide +kernel)) ggX0_going_X0_distancePlace
set_option maxRecDepth 20000 in
theorem ggX0_going_X0_distanceWidth : GoodIn wsX0_going wsX0_distanceWidth := goodIn_rc _ [46] [] rfl (by decide +kernel) (by decide +kernel)
set_option maxRecDepth 20000 in
theorem gX0_going_X0_distanceWidth : GoodIn wsX0_going (va_wsS RX0 27 yX0_distanceWidth wsX0_distanceWidth) := goodIn_app (goodIn_of _ (by decide +kernel)) ggX0_going_X0_distanceWidth
set_option maxRecDepth 20000 in
theorem ggX0_going_X0_lowBits : GoodIn wsX0_going wsX0_lowBits := goodIn_rc _ [18] [] rfl (by decide +kernel) (by decide +kernel)
set_option maxRecDepth 20000 in
theorem gX0_going_X0_lowBits : GoodIn wsX0_going (va_wsS RX0 38 yX0_lowBits wsX0_lowBits) := goodIn_app (goodIn_of _ (by decide +kernel)) ggX0_going_X0_lowBits
theorem dX0_going_0 : decode cX0_going 0 = .ok (.aload_n 0, 1) := by decide +kernel
theorem dX0_going_1 : decode cX0_going 1 = .ok (.iload_n 1, 1) := by decide +kernel
theorem dX0_going_2 : decode cX0_going 2 = .ok (.invokevirtual 17, 3) := by decide +kernel
theorem dX0_going_5 : decode cX0_going 5 = .ok (.istore_n 3, 1) := by decide +kernel
theorem dX0_going_6 : decode cX0_going 6 = .ok (.iload_n 3, 1) := by decide +kernel
theorem dX0_going_7 : decode cX0_going 7 = .ok (.iload_n 2, 1) := by decide +kernel
theorem dX0_going_8 : decode cX0_going 8 = .ok (.i2l, 1) := by decide +kernel
theorem dX0_going_9 : decode cX0_going 9 = .ok (.invokestatic 34, 3) := by decide +kernel
theorem dX0_going_12 : decode cX0_going 12 = .ok (.ifCond .ne 5, 3) := by decide +kernel
theorem dX0_going_15 : decode cX0_going 15 = .ok (.iload_n 1, 1) := by decide +kernel
theorem dX0_going_16 : decode cX0_going 16 = .ok (.ireturn, 1) := by decide +kernel
theorem dX0_going_17 : decode cX0_going 17 = .ok (.iload_n 3, 1) := by decide +kernel
theorem dX0_going_18 : decode cX0_going 18 = .ok (.invokestatic 24, 3) := by decide +kernel
theorem dX0_going_21 : decode cX0_going 21 = .ok (.istore 4, 2) := by decide +kernel
theorem dX0_going_23 : decode cX0_going 23 = .ok (.iload_n 3, 1) := by decide +kernel
theorem dX0_going_24 : decode cX0_going 24 = .ok (.invokestatic 27, 3) := by decide +kernel
theorem dX0_going_27 : decode cX0_going 27 = .ok (.invokestatic 38, 3) := by decide +kernel
theorem dX0_going_30 : decode cX0_going 30 = .ok (.iload 4, 2) := by decide +kernel
theorem dX0_going_32 : decode cX0_going 32 = .ok (.ishl, 1) := by decide +kernel
theorem dX0_going_33 : decode cX0_going 33 = .ok (.istore 5, 2) := by decide +kernel
theorem dX0_going_35 : decode cX0_going 35 = .ok (.iload_n 1, 1) := by decide +kernel
theorem dX0_going_36 : decode cX0_going 36 = .ok (.iload 5, 2) := by decide +kernel
theorem dX0_going_38 : decode cX0_going 38 = .ok (.iconst (-1), 1) := by decide +kernel
theorem dX0_going_39 : decode cX0_going 39 = .ok (.ixor, 1) := by decide +kernel
theorem dX0_going_40 : decode cX0_going 40 = .ok (.iand, 1) := by decide +kernel
theorem dX0_going_41 : decode cX0_going 41 = .ok (.iload_n 2, 1) := by decide +kernel
theorem dX0_going_42 : decode cX0_going 42 = .ok (.iconst 2, 1) := by decide +kernel
theorem dX0_going_43 : decode cX0_going 43 = .ok (.ishr, 1) := by decide +kernel
theorem dX0_going_44 : decode cX0_going 44 = .ok (.iload 4, 2) := by decide +kernel
theorem dX0_going_46 : decode cX0_going 46 = .ok (.ishl, 1) := by decide +kernel
theorem dX0_going_47 : decode cX0_going 47 = .ok (.iload 5, 2) := by decide +kernel
theorem dX0_going_49 : decode cX0_going 49 = .ok (.iand, 1) := by decide +kernel
theorem dX0_going_50 : decode cX0_going 50 = .ok (.ior, 1) := by decide +kernel
theorem dX0_going_51 : decode cX0_going 51 = .ok (.ireturn, 1) := by decide +kernel
set_option maxRecDepth 20000 in
theorem ggX0_reaches_X0_kind : GoodIn wsX0_reaches wsX0_kind := goodIn_rc _ [5, 8, 12, 15, 18, 21, 24, 27, 30, 33, 36] [6, 7, 4, 9, 10, 11, 13, 14, 16, 17, 19, 20, 22, 23, 25, 26, 28, 29, 31, 32, 34, 35] rfl (by decide +kernel) (by decide +kernel)
set_option maxRecDepth 20000 in
theorem gX0_reaches_X0_kind : GoodIn wsX0_reaches (wsV RX0 17 RX0 yX0_kind wsX0_kind) := goodIn_app (goodIn_of _ (by decide +kernel)) ggX0_reaches_X0_kind
set_option maxRecDepth 20000 in
theorem ggX0_reaches_X0_isWithinReach : GoodIn wsX0_reaches wsX0_isWithinReach := goodIn_rc _ [39, 43, 46] [40, 41, 42, 4, 44, 45] rfl (by decide +kernel) (by decide +kernel)
set_option maxRecDepth 20000 in
theorem gX0_reaches_X0_isWithinReach : GoodIn wsX0_reaches (va_wsS RX0 34 yX0_isWithinReach wsX0_isWithinReach) := goodIn_app (goodIn_of _ (by decide +kernel)) ggX0_reaches_X0_isWithinReach
theorem dX0_reaches_0 : decode cX0_reaches 0 = .ok (.aload_n 0, 1) := by decide +kernel
theorem dX0_reaches_1 : decode cX0_reaches 1 = .ok (.iload_n 1, 1) := by decide +kernel
theorem dX0_reaches_2 : decode cX0_reaches 2 = .ok (.invokevirtual 17, 3) := by decide +kernel
theorem dX0_reaches_5 : decode cX0_reaches 5 = .ok (.lload_n 2, 1) := by decide +kernel
theorem dX0_reaches_6 : decode cX0_reaches 6 = .ok (.invokestatic 34, 3) := by decide +kernel
theorem dX0_reaches_9 : decode cX0_reaches 9 = .ok (.ireturn, 1) := by decide +kernel
set_option maxRecDepth 20000 in
theorem ggX0_turned_X0_kind : GoodIn wsX0_turned wsX0_kind := goodIn_rc _ [6, 9, 13, 16, 19, 22, 25, 28, 31, 34, 37] [7, 8, 5, 10, 11, 12, 14, 15, 17, 18, 20, 21, 23, 24, 26, 27, 29, 30, 32, 33, 35, 36] rfl (by decide +kernel) (by decide +kernel)
set_option maxRecDepth 20000 in
theorem gX0_turned_X0_kind : GoodIn wsX0_turned (wsV RX0 17 RX0 yX0_kind wsX0_kind) := goodIn_app (goodIn_of _ (by decide +kernel)) ggX0_turned_X0_kind
theorem dX0_turned_0 : decode cX0_turned 0 = .ok (.aload_n 0, 1) := by decide +kernel
theorem dX0_turned_1 : decode cX0_turned 1 = .ok (.iload_n 1, 1) := by decide +kernel
theorem dX0_turned_2 : decode cX0_turned 2 = .ok (.invokevirtual 17, 3) := by decide +kernel
theorem dX0_turned_5 : decode cX0_turned 5 = .ok (.tableswitch 36 14 16 #[27, 31, 31], 27) := by decide +kernel
theorem dX0_turned_32 : decode cX0_turned 32 = .ok (.iload_n 1, 1) := by decide +kernel
theorem dX0_turned_33 : decode cX0_turned 33 = .ok (.iconst 1, 1) := by decide +kernel
theorem dX0_turned_34 : decode cX0_turned 34 = .ok (.ixor, 1) := by decide +kernel
theorem dX0_turned_35 : decode cX0_turned 35 = .ok (.ireturn, 1) := by decide +kernel
theorem dX0_turned_36 : decode cX0_turned 36 = .ok (.iload_n 1, 1) := by decide +kernel
theorem dX0_turned_37 : decode cX0_turned 37 = .ok (.ldc 41, 2) := by decide +kernel
theorem dX0_turned_39 : decode cX0_turned 39 = .ok (.ixor, 1) := by decide +kernel
theorem dX0_turned_40 : decode cX0_turned 40 = .ok (.ireturn, 1) := by decide +kernel
theorem dX0_turned_41 : decode cX0_turned 41 = .ok (.iload_n 1, 1) := by decide +kernel
theorem dX0_turned_42 : decode cX0_turned 42 = .ok (.ireturn, 1) := by decide +kernel
set_option maxRecDepth 20000 in
theorem ggX0_page_X0_kind : GoodIn wsX0_page wsX0_kind := goodIn_rc _ [7, 10, 14, 17, 20, 23, 26, 29, 32, 35, 38] [8, 9, 6, 11, 12, 13, 15, 16, 18, 19, 21, 22, 24, 25, 27, 28, 30, 31, 33, 34, 36, 37] rfl (by decide +kernel) (by decide +kernel)
set_option maxRecDepth 20000 in
theorem gX0_page_X0_kind : GoodIn wsX0_page (wsV RX0 17 RX0 yX0_kind wsX0_kind) := goodIn_app (goodIn_of _ (by decide +kernel)) ggX0_page_X0_kind
set_option maxRecDepth 20000 in
theorem ggX0_page_X0_signedBits : GoodIn wsX0_page wsX0_signedBits := goodIn_rc _ [41] [] rfl (by decide +kernel) (by decide +kernel)
set_option maxRecDepth 20000 in
theorem gX0_page_X0_signedBits : GoodIn wsX0_page (va_wsS RX0 30 yX0_signedBits wsX0_signedBits) := goodIn_app (goodIn_of _ (by decide +kernel)) ggX0_page_X0_signedBits
set_option maxRecDepth 20000 in
theorem ggX0_page_X0_bits : GoodIn wsX0_page wsX0_bits := goodIn_rc _ [17, 20] [18, 19, 6] rfl (by decide +kernel) (by decide +kernel)
set_option maxRecDepth 20000 in
theorem gX0_page_X0_bits : GoodIn wsX0_page (va_wsS RX0 46 yX0_bits wsX0_bits) := goodIn_app (goodIn_of _ (by decide +kernel)) ggX0_page_X0_bits
theorem dX0_page_0 : decode cX0_page 0 = .ok (.aload_n 0, 1) := by decide +kernel
theorem dX0_page_1 : decode cX0_page 1 = .ok (.iload_n 1, 1) := by decide +kernel
theorem dX0_page_2 : decode cX0_page 2 = .ok (.invokevirtual 17, 3) := by decide +kernel
theorem dX0_page_5 : decode cX0_page 5 = .ok (.iconst 5, 1) := by decide +kernel
theorem dX0_page_6 : decode cX0_page 6 = .ok (.if_icmp .eq 7, 3) := by decide +kernel
theorem dX0_page_9 : decode cX0_page 9 = .ok (.ldc2_w 42, 3) := by decide +kernel
theorem dX0_page_12 : decode cX0_page 12 = .ok (.lreturn, 1) := by decide +kernel
theorem dX0_page_13 : decode cX0_page 13 = .ok (.iload_n 1, 1) := by decide +kernel
theorem dX0_page_14 : decode cX0_page 14 = .ok (.iconst 5, 1) := by decide +kernel
theorem dX0_page_15 : decode cX0_page 15 = .ok (.bipush 19, 2) := by decide +kernel
theorem dX0_page_17 : decode cX0_page 17 = .ok (.invokestatic 30, 3) := by decide +kernel
theorem dX0_page_20 : decode cX0_page 20 = .ok (.i2l, 1) := by decide +kernel
theorem dX0_page_21 : decode cX0_page 21 = .ok (.ldc2_w 44, 3) := by decide +kernel
theorem dX0_page_24 : decode cX0_page 24 = .ok (.lmul, 1) := by decide +kernel
theorem dX0_page_25 : decode cX0_page 25 = .ok (.iload_n 1, 1) := by decide +kernel
theorem dX0_page_26 : decode cX0_page 26 = .ok (.bipush 29, 2) := by decide +kernel
theorem dX0_page_28 : decode cX0_page 28 = .ok (.iconst 2, 1) := by decide +kernel
theorem dX0_page_29 : decode cX0_page 29 = .ok (.invokestatic 46, 3) := by decide +kernel
theorem dX0_page_32 : decode cX0_page 32 = .ok (.i2l, 1) := by decide +kernel
theorem dX0_page_33 : decode cX0_page 33 = .ok (.ladd, 1) := by decide +kernel
theorem dX0_page_34 : decode cX0_page 34 = .ok (.lstore 4, 2) := by decide +kernel
theorem dX0_page_36 : decode cX0_page 36 = .ok (.lload_n 2, 1) := by decide +kernel
theorem dX0_page_37 : decode cX0_page 37 = .ok (.bipush 12, 2) := by decide +kernel
theorem dX0_page_39 : decode cX0_page 39 = .ok (.lshr, 1) := by decide +kernel
theorem dX0_page_40 : decode cX0_page 40 = .ok (.lload 4, 2) := by decide +kernel
theorem dX0_page_42 : decode cX0_page 42 = .ok (.ladd, 1) := by decide +kernel
theorem dX0_page_43 : decode cX0_page 43 = .ok (.bipush 12, 2) := by decide +kernel
theorem dX0_page_45 : decode cX0_page 45 = .ok (.lshl, 1) := by decide +kernel
theorem dX0_page_46 : decode cX0_page 46 = .ok (.lreturn, 1) := by decide +kernel
set_option maxRecDepth 20000 in
theorem ggX0_paging_X0_kind : GoodIn wsX0_paging wsX0_kind := goodIn_rc _ [8, 11, 15, 18, 21, 24, 27, 30, 33, 36, 39] [9, 10, 7, 12, 13, 14, 16, 17, 19, 20, 22, 23, 25, 26, 28, 29, 31, 32, 34, 35, 37, 38] rfl (by decide +kernel) (by decide +kernel)
set_option maxRecDepth 20000 in
theorem gX0_paging_X0_kind : GoodIn wsX0_paging (wsV RX0 17 RX0 yX0_kind wsX0_kind) := goodIn_app (goodIn_of _ (by decide +kernel)) ggX0_paging_X0_kind
set_option maxRecDepth 20000 in
theorem ggX0_paging_X0_bits : GoodIn wsX0_paging wsX0_bits := goodIn_rc _ [18, 21] [19, 20, 7] rfl (by decide +kernel) (by decide +kernel)
set_option maxRecDepth 20000 in
theorem gX0_paging_X0_bits : GoodIn wsX0_paging (va_wsS RX0 46 yX0_bits wsX0_bits) := goodIn_app (goodIn_of _ (by decide +kernel)) ggX0_paging_X0_bits
theorem dX0_paging_0 : decode cX0_paging 0 = .ok (.aload_n 0, 1) := by decide +kernel
theorem dX0_paging_1 : decode cX0_paging 1 = .ok (.iload_n 1, 1) := by decide +kernel
theorem dX0_paging_2 : decode cX0_paging 2 = .ok (.invokevirtual 17, 3) := by decide +kernel
theorem dX0_paging_5 : decode cX0_paging 5 = .ok (.iconst 5, 1) := by decide +kernel
theorem dX0_paging_6 : decode cX0_paging 6 = .ok (.if_icmp .eq 5, 3) := by decide +kernel
theorem dX0_paging_9 : decode cX0_paging 9 = .ok (.iload_n 1, 1) := by decide +kernel
theorem dX0_paging_10 : decode cX0_paging 10 = .ok (.ireturn, 1) := by decide +kernel
theorem dX0_paging_11 : decode cX0_paging 11 = .ok (.lload 4, 2) := by decide +kernel
theorem dX0_paging_13 : decode cX0_paging 13 = .ok (.bipush 12, 2) := by decide +kernel
theorem dX0_paging_15 : decode cX0_paging 15 = .ok (.lshr, 1) := by decide +kernel
theorem dX0_paging_16 : decode cX0_paging 16 = .ok (.lload_n 2, 1) := by decide +kernel
theorem dX0_paging_17 : decode cX0_paging 17 = .ok (.bipush 12, 2) := by decide +kernel
theorem dX0_paging_19 : decode cX0_paging 19 = .ok (.lshr, 1) := by decide +kernel
theorem dX0_paging_20 : decode cX0_paging 20 = .ok (.lsub, 1) := by decide +kernel
theorem dX0_paging_21 : decode cX0_paging 21 = .ok (.lstore 6, 2) := by decide +kernel
theorem dX0_paging_23 : decode cX0_paging 23 = .ok (.lload 6, 2) := by decide +kernel
theorem dX0_paging_25 : decode cX0_paging 25 = .ok (.ldc2_w 49, 3) := by decide +kernel
theorem dX0_paging_28 : decode cX0_paging 28 = .ok (.lcmp, 1) := by decide +kernel
theorem dX0_paging_29 : decode cX0_paging 29 = .ok (.ifCond .ge 12, 3) := by decide +kernel
theorem dX0_paging_32 : decode cX0_paging 32 = .ok (.lload 6, 2) := by decide +kernel
theorem dX0_paging_34 : decode cX0_paging 34 = .ok (.ldc2_w 51, 3) := by decide +kernel
theorem dX0_paging_37 : decode cX0_paging 37 = .ok (.lcmp, 1) := by decide +kernel
theorem dX0_paging_38 : decode cX0_paging 38 = .ok (.ifCond .ge 5, 3) := by decide +kernel
theorem dX0_paging_41 : decode cX0_paging 41 = .ok (.iload_n 1, 1) := by decide +kernel
theorem dX0_paging_42 : decode cX0_paging 42 = .ok (.ireturn, 1) := by decide +kernel
theorem dX0_paging_43 : decode cX0_paging 43 = .ok (.lload 6, 2) := by decide +kernel
theorem dX0_paging_45 : decode cX0_paging 45 = .ok (.l2i, 1) := by decide +kernel
theorem dX0_paging_46 : decode cX0_paging 46 = .ok (.istore 8, 2) := by decide +kernel
theorem dX0_paging_48 : decode cX0_paging 48 = .ok (.iload 8, 2) := by decide +kernel
theorem dX0_paging_50 : decode cX0_paging 50 = .ok (.iconst 2, 1) := by decide +kernel
theorem dX0_paging_51 : decode cX0_paging 51 = .ok (.bipush 19, 2) := by decide +kernel
theorem dX0_paging_53 : decode cX0_paging 53 = .ok (.invokestatic 46, 3) := by decide +kernel
theorem dX0_paging_56 : decode cX0_paging 56 = .ok (.iconst 5, 1) := by decide +kernel
theorem dX0_paging_57 : decode cX0_paging 57 = .ok (.ishl, 1) := by decide +kernel
theorem dX0_paging_58 : decode cX0_paging 58 = .ok (.istore 9, 2) := by decide +kernel
theorem dX0_paging_60 : decode cX0_paging 60 = .ok (.iload 8, 2) := by decide +kernel
theorem dX0_paging_62 : decode cX0_paging 62 = .ok (.iconst 0, 1) := by decide +kernel
theorem dX0_paging_63 : decode cX0_paging 63 = .ok (.iconst 2, 1) := by decide +kernel
theorem dX0_paging_64 : decode cX0_paging 64 = .ok (.invokestatic 46, 3) := by decide +kernel
theorem dX0_paging_67 : decode cX0_paging 67 = .ok (.bipush 29, 2) := by decide +kernel
theorem dX0_paging_69 : decode cX0_paging 69 = .ok (.ishl, 1) := by decide +kernel
theorem dX0_paging_70 : decode cX0_paging 70 = .ok (.istore 10, 2) := by decide +kernel
theorem dX0_paging_72 : decode cX0_paging 72 = .ok (.iload_n 1, 1) := by decide +kernel
theorem dX0_paging_73 : decode cX0_paging 73 = .ok (.ldc 53, 2) := by decide +kernel
theorem dX0_paging_75 : decode cX0_paging 75 = .ok (.iand, 1) := by decide +kernel
theorem dX0_paging_76 : decode cX0_paging 76 = .ok (.iload 9, 2) := by decide +kernel
theorem dX0_paging_78 : decode cX0_paging 78 = .ok (.ior, 1) := by decide +kernel
theorem dX0_paging_79 : decode cX0_paging 79 = .ok (.iload 10, 2) := by decide +kernel
theorem dX0_paging_81 : decode cX0_paging 81 = .ok (.ior, 1) := by decide +kernel
theorem dX0_paging_82 : decode cX0_paging 82 = .ok (.ireturn, 1) := by decide +kernel
set_option maxRecDepth 20000 in
theorem ggX0_goesOn_X0_kind : GoodIn wsX0_goesOn wsX0_kind := goodIn_rc _ [5, 8, 12, 15, 18, 21, 24, 27, 30, 33, 36] [6, 7, 4, 9, 10, 11, 13, 14, 16, 17, 19, 20, 22, 23, 25, 26, 28, 29, 31, 32, 34, 35] rfl (by decide +kernel) (by decide +kernel)
set_option maxRecDepth 20000 in
theorem gX0_goesOn_X0_kind : GoodIn wsX0_goesOn (wsV RX0 17 RX0 yX0_kind wsX0_kind) := goodIn_app (goodIn_of _ (by decide +kernel)) ggX0_goesOn_X0_kind
theorem dX0_goesOn_0 : decode cX0_goesOn 0 = .ok (.aload_n 0, 1) := by decide +kernel
theorem dX0_goesOn_1 : decode cX0_goesOn 1 = .ok (.iload_n 1, 1) := by decide +kernel
theorem dX0_goesOn_2 : decode cX0_goesOn 2 = .ok (.invokevirtual 17, 3) := by decide +kernel
theorem dX0_goesOn_5 : decode cX0_goesOn 5 = .ok (.istore_n 2, 1) := by decide +kernel
theorem dX0_goesOn_6 : decode cX0_goesOn 6 = .ok (.iload_n 2, 1) := by decide +kernel
theorem dX0_goesOn_7 : decode cX0_goesOn 7 = .ok (.ifCond .eq 25, 3) := by decide +kernel
theorem dX0_goesOn_10 : decode cX0_goesOn 10 = .ok (.iload_n 2, 1) := by decide +kernel
theorem dX0_goesOn_11 : decode cX0_goesOn 11 = .ok (.bipush 12, 2) := by decide +kernel
theorem dX0_goesOn_13 : decode cX0_goesOn 13 = .ok (.if_icmp .eq 19, 3) := by decide +kernel
theorem dX0_goesOn_16 : decode cX0_goesOn 16 = .ok (.iload_n 2, 1) := by decide +kernel
theorem dX0_goesOn_17 : decode cX0_goesOn 17 = .ok (.bipush 17, 2) := by decide +kernel
theorem dX0_goesOn_19 : decode cX0_goesOn 19 = .ok (.if_icmp .eq 13, 3) := by decide +kernel
theorem dX0_goesOn_22 : decode cX0_goesOn 22 = .ok (.iload_n 2, 1) := by decide +kernel
theorem dX0_goesOn_23 : decode cX0_goesOn 23 = .ok (.bipush 19, 2) := by decide +kernel
theorem dX0_goesOn_25 : decode cX0_goesOn 25 = .ok (.if_icmp .eq 7, 3) := by decide +kernel
theorem dX0_goesOn_28 : decode cX0_goesOn 28 = .ok (.iconst 1, 1) := by decide +kernel
theorem dX0_goesOn_29 : decode cX0_goesOn 29 = .ok (.goto 4, 3) := by decide +kernel
theorem dX0_goesOn_32 : decode cX0_goesOn 32 = .ok (.iconst 0, 1) := by decide +kernel
theorem dX0_goesOn_33 : decode cX0_goesOn 33 = .ok (.ireturn, 1) := by decide +kernel
set_option maxRecDepth 20000 in
theorem ggX0_register_X0_kind : GoodIn wsX0_register wsX0_kind := goodIn_rc _ [5, 8, 12, 15, 18, 21, 24, 27, 30, 33, 36] [6, 7, 4, 9, 10, 11, 13, 14, 16, 17, 19, 20, 22, 23, 25, 26, 28, 29, 31, 32, 34, 35] rfl (by decide +kernel) (by decide +kernel)
set_option maxRecDepth 20000 in
theorem gX0_register_X0_kind : GoodIn wsX0_register (wsV RX0 17 RX0 yX0_kind wsX0_kind) := goodIn_app (goodIn_of _ (by decide +kernel)) ggX0_register_X0_kind
set_option maxRecDepth 20000 in
theorem ggX0_register_X0_hasD : GoodIn wsX0_register wsX0_hasD := goodIn_rc _ [39] [] rfl (by decide +kernel) (by decide +kernel)
set_option maxRecDepth 20000 in
theorem gX0_register_X0_hasD : GoodIn wsX0_register (va_wsS RX0 54 yX0_hasD wsX0_hasD) := goodIn_app (goodIn_of _ (by decide +kernel)) ggX0_register_X0_hasD
set_option maxRecDepth 20000 in
theorem ggX0_register_X0_bits : GoodIn wsX0_register wsX0_bits := goodIn_rc _ [15, 18] [16, 17, 4] rfl (by decide +kernel) (by decide +kernel)
set_option maxRecDepth 20000 in
theorem gX0_register_X0_bits : GoodIn wsX0_register (va_wsS RX0 46 yX0_bits wsX0_bits) := goodIn_app (goodIn_of _ (by decide +kernel)) ggX0_register_X0_bits
set_option maxRecDepth 20000 in
theorem ggX0_register_X0_hasN : GoodIn wsX0_register wsX0_hasN := goodIn_rc _ [42] [] rfl (by decide +kernel) (by decide +kernel)
set_option maxRecDepth 20000 in
theorem gX0_register_X0_hasN : GoodIn wsX0_register (va_wsS RX0 57 yX0_hasN wsX0_hasN) := goodIn_app (goodIn_of _ (by decide +kernel)) ggX0_register_X0_hasN
set_option maxRecDepth 20000 in
theorem ggX0_register_X0_hasM : GoodIn wsX0_register wsX0_hasM := goodIn_rc _ [45] [] rfl (by decide +kernel) (by decide +kernel)
set_option maxRecDepth 20000 in
theorem gX0_register_X0_hasM : GoodIn wsX0_register (va_wsS RX0 60 yX0_hasM wsX0_hasM) := goodIn_app (goodIn_of _ (by decide +kernel)) ggX0_register_X0_hasM
set_option maxRecDepth 20000 in
theorem ggX0_register_X0_hasA : GoodIn wsX0_register wsX0_hasA := goodIn_rc _ [48] [] rfl (by decide +kernel) (by decide +kernel)
set_option maxRecDepth 20000 in
theorem gX0_register_X0_hasA : GoodIn wsX0_register (va_wsS RX0 63 yX0_hasA wsX0_hasA) := goodIn_app (goodIn_of _ (by decide +kernel)) ggX0_register_X0_hasA
theorem dX0_register_0 : decode cX0_register 0 = .ok (.aload_n 0, 1) := by decide +kernel
theorem dX0_register_1 : decode cX0_register 1 = .ok (.iload_n 1, 1) := by decide +kernel
theorem dX0_register_2 : decode cX0_register 2 = .ok (.invokevirtual 17, 3) := by decide +kernel
theorem dX0_register_5 : decode cX0_register 5 = .ok (.istore_n 3, 1) := by decide +kernel
theorem dX0_register_6 : decode cX0_register 6 = .ok (.iload_n 2, 1) := by decide +kernel
theorem dX0_register_7 : decode cX0_register 7 = .ok (.tableswitch 103 0 3 #[29, 47, 65, 84], 29) := by decide +kernel
theorem dX0_register_36 : decode cX0_register 36 = .ok (.iload_n 3, 1) := by decide +kernel
theorem dX0_register_37 : decode cX0_register 37 = .ok (.invokestatic 54, 3) := by decide +kernel
theorem dX0_register_40 : decode cX0_register 40 = .ok (.ifCond .eq 12, 3) := by decide +kernel
theorem dX0_register_43 : decode cX0_register 43 = .ok (.iload_n 1, 1) := by decide +kernel
theorem dX0_register_44 : decode cX0_register 44 = .ok (.iconst 0, 1) := by decide +kernel
theorem dX0_register_45 : decode cX0_register 45 = .ok (.iconst 5, 1) := by decide +kernel
theorem dX0_register_46 : decode cX0_register 46 = .ok (.invokestatic 46, 3) := by decide +kernel
theorem dX0_register_49 : decode cX0_register 49 = .ok (.goto 4, 3) := by decide +kernel
theorem dX0_register_52 : decode cX0_register 52 = .ok (.iconst (-1), 1) := by decide +kernel
theorem dX0_register_53 : decode cX0_register 53 = .ok (.ireturn, 1) := by decide +kernel
theorem dX0_register_54 : decode cX0_register 54 = .ok (.iload_n 3, 1) := by decide +kernel
theorem dX0_register_55 : decode cX0_register 55 = .ok (.invokestatic 57, 3) := by decide +kernel
theorem dX0_register_58 : decode cX0_register 58 = .ok (.ifCond .eq 12, 3) := by decide +kernel
theorem dX0_register_61 : decode cX0_register 61 = .ok (.iload_n 1, 1) := by decide +kernel
theorem dX0_register_62 : decode cX0_register 62 = .ok (.iconst 5, 1) := by decide +kernel
theorem dX0_register_63 : decode cX0_register 63 = .ok (.iconst 5, 1) := by decide +kernel
theorem dX0_register_64 : decode cX0_register 64 = .ok (.invokestatic 46, 3) := by decide +kernel
theorem dX0_register_67 : decode cX0_register 67 = .ok (.goto 4, 3) := by decide +kernel
theorem dX0_register_70 : decode cX0_register 70 = .ok (.iconst (-1), 1) := by decide +kernel
theorem dX0_register_71 : decode cX0_register 71 = .ok (.ireturn, 1) := by decide +kernel
theorem dX0_register_72 : decode cX0_register 72 = .ok (.iload_n 3, 1) := by decide +kernel
theorem dX0_register_73 : decode cX0_register 73 = .ok (.invokestatic 60, 3) := by decide +kernel
theorem dX0_register_76 : decode cX0_register 76 = .ok (.ifCond .eq 13, 3) := by decide +kernel
theorem dX0_register_79 : decode cX0_register 79 = .ok (.iload_n 1, 1) := by decide +kernel
theorem dX0_register_80 : decode cX0_register 80 = .ok (.bipush 16, 2) := by decide +kernel
theorem dX0_register_82 : decode cX0_register 82 = .ok (.iconst 5, 1) := by decide +kernel
theorem dX0_register_83 : decode cX0_register 83 = .ok (.invokestatic 46, 3) := by decide +kernel
theorem dX0_register_86 : decode cX0_register 86 = .ok (.goto 4, 3) := by decide +kernel
theorem dX0_register_89 : decode cX0_register 89 = .ok (.iconst (-1), 1) := by decide +kernel
theorem dX0_register_90 : decode cX0_register 90 = .ok (.ireturn, 1) := by decide +kernel
theorem dX0_register_91 : decode cX0_register 91 = .ok (.iload_n 3, 1) := by decide +kernel
theorem dX0_register_92 : decode cX0_register 92 = .ok (.invokestatic 63, 3) := by decide +kernel
theorem dX0_register_95 : decode cX0_register 95 = .ok (.ifCond .eq 13, 3) := by decide +kernel
theorem dX0_register_98 : decode cX0_register 98 = .ok (.iload_n 1, 1) := by decide +kernel
theorem dX0_register_99 : decode cX0_register 99 = .ok (.bipush 10, 2) := by decide +kernel
theorem dX0_register_101 : decode cX0_register 101 = .ok (.iconst 5, 1) := by decide +kernel
theorem dX0_register_102 : decode cX0_register 102 = .ok (.invokestatic 46, 3) := by decide +kernel
theorem dX0_register_105 : decode cX0_register 105 = .ok (.goto 4, 3) := by decide +kernel
theorem dX0_register_108 : decode cX0_register 108 = .ok (.iconst (-1), 1) := by decide +kernel
theorem dX0_register_109 : decode cX0_register 109 = .ok (.ireturn, 1) := by decide +kernel
theorem dX0_register_110 : decode cX0_register 110 = .ok (.iconst (-1), 1) := by decide +kernel
theorem dX0_register_111 : decode cX0_register 111 = .ok (.ireturn, 1) := by decide +kernel
theorem dX0_formOf_0 : decode cX0_formOf 0 = .ok (.iconst 0, 1) := by decide +kernel
theorem dX0_formOf_1 : decode cX0_formOf 1 = .ok (.istore_n 1, 1) := by decide +kernel
theorem dX0_formOf_2 : decode cX0_formOf 2 = .ok (.iload_n 1, 1) := by decide +kernel
theorem dX0_formOf_3 : decode cX0_formOf 3 = .ok (.iconst 1, 1) := by decide +kernel
theorem dX0_formOf_4 : decode cX0_formOf 4 = .ok (.iadd, 1) := by decide +kernel
theorem dX0_formOf_5 : decode cX0_formOf 5 = .ok (.getstatic 66, 3) := by decide +kernel
theorem dX0_formOf_8 : decode cX0_formOf 8 = .ok (.arraylength, 1) := by decide +kernel
theorem dX0_formOf_9 : decode cX0_formOf 9 = .ok (.if_icmp .ge 32, 3) := by decide +kernel
theorem dX0_formOf_12 : decode cX0_formOf 12 = .ok (.iload_n 0, 1) := by decide +kernel
theorem dX0_formOf_13 : decode cX0_formOf 13 = .ok (.getstatic 66, 3) := by decide +kernel
theorem dX0_formOf_16 : decode cX0_formOf 16 = .ok (.iload_n 1, 1) := by decide +kernel
theorem dX0_formOf_17 : decode cX0_formOf 17 = .ok (.iaload, 1) := by decide +kernel
theorem dX0_formOf_18 : decode cX0_formOf 18 = .ok (.iand, 1) := by decide +kernel
theorem dX0_formOf_19 : decode cX0_formOf 19 = .ok (.getstatic 66, 3) := by decide +kernel
theorem dX0_formOf_22 : decode cX0_formOf 22 = .ok (.iload_n 1, 1) := by decide +kernel
theorem dX0_formOf_23 : decode cX0_formOf 23 = .ok (.iconst 1, 1) := by decide +kernel
theorem dX0_formOf_24 : decode cX0_formOf 24 = .ok (.iadd, 1) := by decide +kernel
theorem dX0_formOf_25 : decode cX0_formOf 25 = .ok (.iaload, 1) := by decide +kernel
theorem dX0_formOf_26 : decode cX0_formOf 26 = .ok (.if_icmp .ne 9, 3) := by decide +kernel
theorem dX0_formOf_29 : decode cX0_formOf 29 = .ok (.iload_n 1, 1) := by decide +kernel
theorem dX0_formOf_30 : decode cX0_formOf 30 = .ok (.iconst 2, 1) := by decide +kernel
theorem dX0_formOf_31 : decode cX0_formOf 31 = .ok (.idiv, 1) := by decide +kernel
theorem dX0_formOf_32 : decode cX0_formOf 32 = .ok (.iconst 1, 1) := by decide +kernel
theorem dX0_formOf_33 : decode cX0_formOf 33 = .ok (.iadd, 1) := by decide +kernel
theorem dX0_formOf_34 : decode cX0_formOf 34 = .ok (.ireturn, 1) := by decide +kernel
theorem dX0_formOf_35 : decode cX0_formOf 35 = .ok (.iinc 1 2, 3) := by decide +kernel
theorem dX0_formOf_38 : decode cX0_formOf 38 = .ok (.goto (-36), 3) := by decide +kernel
theorem dX0_formOf_41 : decode cX0_formOf 41 = .ok (.iconst 0, 1) := by decide +kernel
theorem dX0_formOf_42 : decode cX0_formOf 42 = .ok (.ireturn, 1) := by decide +kernel
set_option maxRecDepth 20000 in
theorem ggX0_isAllowed_X0_bits : GoodIn wsX0_isAllowed wsX0_bits := goodIn_rc _ [4, 7] [5, 6, 3] rfl (by decide +kernel) (by decide +kernel)
set_option maxRecDepth 20000 in
theorem gX0_isAllowed_X0_bits : GoodIn wsX0_isAllowed (va_wsS RX0 46 yX0_bits wsX0_bits) := goodIn_app (goodIn_of _ (by decide +kernel)) ggX0_isAllowed_X0_bits
set_option maxRecDepth 20000 in
theorem ggX0_isAllowed_X0_isMovedWithin : GoodIn wsX0_isAllowed wsX0_isMovedWithin := goodIn_rc _ [10, 13, 4, 7] [11, 12, 3, 1, 2, 5, 6] rfl (by decide +kernel) (by decide +kernel)
set_option maxRecDepth 20000 in
theorem gX0_isAllowed_X0_isMovedWithin : GoodIn wsX0_isAllowed (va_wsS RX0 70 yX0_isMovedWithin wsX0_isMovedWithin) := goodIn_app (goodIn_of _ (by decide +kernel)) ggX0_isAllowed_X0_isMovedWithin
set_option maxRecDepth 20000 in
theorem ggX0_isAllowed_X0_isLong : GoodIn wsX0_isAllowed wsX0_isLong := goodIn_rc _ [13] [] rfl (by decide +kernel) (by decide +kernel)
set_option maxRecDepth 20000 in
theorem gX0_isAllowed_X0_isLong : GoodIn wsX0_isAllowed (va_wsS RX0 73 yX0_isLong wsX0_isLong) := goodIn_app (goodIn_of _ (by decide +kernel)) ggX0_isAllowed_X0_isLong
set_option maxRecDepth 20000 in
theorem ggX0_isAllowed_X0_isTwo : GoodIn wsX0_isAllowed wsX0_isTwo := goodIn_rc _ [16] [] rfl (by decide +kernel) (by decide +kernel)
set_option maxRecDepth 20000 in
theorem gX0_isAllowed_X0_isTwo : GoodIn wsX0_isAllowed (va_wsS RX0 76 yX0_isTwo wsX0_isTwo) := goodIn_app (goodIn_of _ (by decide +kernel)) ggX0_isAllowed_X0_isTwo
set_option maxRecDepth 20000 in
theorem ggX0_isAllowed_X0_isCondition : GoodIn wsX0_isAllowed wsX0_isCondition := goodIn_rc _ [19] [] rfl (by decide +kernel) (by decide +kernel)
set_option maxRecDepth 20000 in
theorem gX0_isAllowed_X0_isCondition : GoodIn wsX0_isAllowed (va_wsS RX0 79 yX0_isCondition wsX0_isCondition) := goodIn_app (goodIn_of _ (by decide +kernel)) ggX0_isAllowed_X0_isCondition
set_option maxRecDepth 20000 in
theorem ggX0_isAllowed_X0_isLoad : GoodIn wsX0_isAllowed wsX0_isLoad := goodIn_rc _ [22] [] rfl (by decide +kernel) (by decide +kernel)
set_option maxRecDepth 20000 in
theorem gX0_isAllowed_X0_isLoad : GoodIn wsX0_isAllowed (va_wsS RX0 82 yX0_isLoad wsX0_isLoad) := goodIn_app (goodIn_of _ (by decide +kernel)) ggX0_isAllowed_X0_isLoad
set_option maxRecDepth 20000 in
theorem ggX0_isAllowed_X0_isPair : GoodIn wsX0_isAllowed wsX0_isPair := goodIn_rc _ [25, 4, 7] [1, 2, 3, 5, 6] rfl (by decide +kernel) (by decide +kernel)
set_option maxRecDepth 20000 in
theorem gX0_isAllowed_X0_isPair : GoodIn wsX0_isAllowed (va_wsS RX0 85 yX0_isPair wsX0_isPair) := goodIn_app (goodIn_of _ (by decide +kernel)) ggX0_isAllowed_X0_isPair
theorem dX0_isAllowed_0 : decode cX0_isAllowed 0 = .ok (.iload_n 0, 1) := by decide +kernel
theorem dX0_isAllowed_1 : decode cX0_isAllowed 1 = .ok (.tableswitch 187 2 14 #[67, 91, 96, 187, 187, 131, 143, 154, 154, 172, 187, 187, 177], 67) := by decide +kernel
theorem dX0_isAllowed_68 : decode cX0_isAllowed 68 = .ok (.iload_n 1, 1) := by decide +kernel
theorem dX0_isAllowed_69 : decode cX0_isAllowed 69 = .ok (.bipush 22, 2) := by decide +kernel
theorem dX0_isAllowed_71 : decode cX0_isAllowed 71 = .ok (.iconst 2, 1) := by decide +kernel
theorem dX0_isAllowed_72 : decode cX0_isAllowed 72 = .ok (.invokestatic 46, 3) := by decide +kernel
theorem dX0_isAllowed_75 : decode cX0_isAllowed 75 = .ok (.iconst 3, 1) := by decide +kernel
theorem dX0_isAllowed_76 : decode cX0_isAllowed 76 = .ok (.if_icmp .eq 14, 3) := by decide +kernel
theorem dX0_isAllowed_79 : decode cX0_isAllowed 79 = .ok (.iload_n 1, 1) := by decide +kernel
theorem dX0_isAllowed_80 : decode cX0_isAllowed 80 = .ok (.invokestatic 70, 3) := by decide +kernel
theorem dX0_isAllowed_83 : decode cX0_isAllowed 83 = .ok (.ifCond .eq 7, 3) := by decide +kernel
theorem dX0_isAllowed_86 : decode cX0_isAllowed 86 = .ok (.iconst 1, 1) := by decide +kernel
theorem dX0_isAllowed_87 : decode cX0_isAllowed 87 = .ok (.goto 4, 3) := by decide +kernel
theorem dX0_isAllowed_90 : decode cX0_isAllowed 90 = .ok (.iconst 0, 1) := by decide +kernel
theorem dX0_isAllowed_91 : decode cX0_isAllowed 91 = .ok (.ireturn, 1) := by decide +kernel
theorem dX0_isAllowed_92 : decode cX0_isAllowed 92 = .ok (.iload_n 1, 1) := by decide +kernel
theorem dX0_isAllowed_93 : decode cX0_isAllowed 93 = .ok (.invokestatic 70, 3) := by decide +kernel
theorem dX0_isAllowed_96 : decode cX0_isAllowed 96 = .ok (.ireturn, 1) := by decide +kernel
theorem dX0_isAllowed_97 : decode cX0_isAllowed 97 = .ok (.iload_n 1, 1) := by decide +kernel
theorem dX0_isAllowed_98 : decode cX0_isAllowed 98 = .ok (.bipush 29, 2) := by decide +kernel
theorem dX0_isAllowed_100 : decode cX0_isAllowed 100 = .ok (.iconst 2, 1) := by decide +kernel
theorem dX0_isAllowed_101 : decode cX0_isAllowed 101 = .ok (.invokestatic 46, 3) := by decide +kernel
theorem dX0_isAllowed_104 : decode cX0_isAllowed 104 = .ok (.iconst 1, 1) := by decide +kernel
theorem dX0_isAllowed_105 : decode cX0_isAllowed 105 = .ok (.if_icmp .eq 25, 3) := by decide +kernel
theorem dX0_isAllowed_108 : decode cX0_isAllowed 108 = .ok (.iload_n 1, 1) := by decide +kernel
theorem dX0_isAllowed_109 : decode cX0_isAllowed 109 = .ok (.invokestatic 73, 3) := by decide +kernel
theorem dX0_isAllowed_112 : decode cX0_isAllowed 112 = .ok (.ifCond .ne 14, 3) := by decide +kernel
theorem dX0_isAllowed_115 : decode cX0_isAllowed 115 = .ok (.iload_n 1, 1) := by decide +kernel
theorem dX0_isAllowed_116 : decode cX0_isAllowed 116 = .ok (.bipush 21, 2) := by decide +kernel
theorem dX0_isAllowed_118 : decode cX0_isAllowed 118 = .ok (.iconst 2, 1) := by decide +kernel
theorem dX0_isAllowed_119 : decode cX0_isAllowed 119 = .ok (.invokestatic 46, 3) := by decide +kernel
theorem dX0_isAllowed_122 : decode cX0_isAllowed 122 = .ok (.iconst 2, 1) := by decide +kernel
theorem dX0_isAllowed_123 : decode cX0_isAllowed 123 = .ok (.if_icmp .ge 7, 3) := by decide +kernel
theorem dX0_isAllowed_126 : decode cX0_isAllowed 126 = .ok (.iconst 1, 1) := by decide +kernel
theorem dX0_isAllowed_127 : decode cX0_isAllowed 127 = .ok (.goto 4, 3) := by decide +kernel
theorem dX0_isAllowed_130 : decode cX0_isAllowed 130 = .ok (.iconst 0, 1) := by decide +kernel
theorem dX0_isAllowed_131 : decode cX0_isAllowed 131 = .ok (.ireturn, 1) := by decide +kernel
theorem dX0_isAllowed_132 : decode cX0_isAllowed 132 = .ok (.iload_n 1, 1) := by decide +kernel
theorem dX0_isAllowed_133 : decode cX0_isAllowed 133 = .ok (.bipush 10, 2) := by decide +kernel
theorem dX0_isAllowed_135 : decode cX0_isAllowed 135 = .ok (.bipush 6, 2) := by decide +kernel
theorem dX0_isAllowed_137 : decode cX0_isAllowed 137 = .ok (.invokestatic 46, 3) := by decide +kernel
theorem dX0_isAllowed_140 : decode cX0_isAllowed 140 = .ok (.invokestatic 76, 3) := by decide +kernel
theorem dX0_isAllowed_143 : decode cX0_isAllowed 143 = .ok (.ireturn, 1) := by decide +kernel
theorem dX0_isAllowed_144 : decode cX0_isAllowed 144 = .ok (.iload_n 1, 1) := by decide +kernel
theorem dX0_isAllowed_145 : decode cX0_isAllowed 145 = .ok (.bipush 12, 2) := by decide +kernel
theorem dX0_isAllowed_147 : decode cX0_isAllowed 147 = .ok (.iconst 4, 1) := by decide +kernel
theorem dX0_isAllowed_148 : decode cX0_isAllowed 148 = .ok (.invokestatic 46, 3) := by decide +kernel
theorem dX0_isAllowed_151 : decode cX0_isAllowed 151 = .ok (.invokestatic 79, 3) := by decide +kernel
theorem dX0_isAllowed_154 : decode cX0_isAllowed 154 = .ok (.ireturn, 1) := by decide +kernel
theorem dX0_isAllowed_155 : decode cX0_isAllowed 155 = .ok (.iload_n 1, 1) := by decide +kernel
theorem dX0_isAllowed_156 : decode cX0_isAllowed 156 = .ok (.bipush 30, 2) := by decide +kernel
theorem dX0_isAllowed_158 : decode cX0_isAllowed 158 = .ok (.iconst 2, 1) := by decide +kernel
theorem dX0_isAllowed_159 : decode cX0_isAllowed 159 = .ok (.invokestatic 46, 3) := by decide +kernel
theorem dX0_isAllowed_162 : decode cX0_isAllowed 162 = .ok (.iload_n 1, 1) := by decide +kernel
theorem dX0_isAllowed_163 : decode cX0_isAllowed 163 = .ok (.bipush 22, 2) := by decide +kernel
theorem dX0_isAllowed_165 : decode cX0_isAllowed 165 = .ok (.iconst 2, 1) := by decide +kernel
theorem dX0_isAllowed_166 : decode cX0_isAllowed 166 = .ok (.invokestatic 46, 3) := by decide +kernel
theorem dX0_isAllowed_169 : decode cX0_isAllowed 169 = .ok (.invokestatic 82, 3) := by decide +kernel
theorem dX0_isAllowed_172 : decode cX0_isAllowed 172 = .ok (.ireturn, 1) := by decide +kernel
theorem dX0_isAllowed_173 : decode cX0_isAllowed 173 = .ok (.iload_n 1, 1) := by decide +kernel
theorem dX0_isAllowed_174 : decode cX0_isAllowed 174 = .ok (.invokestatic 85, 3) := by decide +kernel
theorem dX0_isAllowed_177 : decode cX0_isAllowed 177 = .ok (.ireturn, 1) := by decide +kernel
theorem dX0_isAllowed_178 : decode cX0_isAllowed 178 = .ok (.iload_n 1, 1) := by decide +kernel
theorem dX0_isAllowed_179 : decode cX0_isAllowed 179 = .ok (.iconst 0, 1) := by decide +kernel
theorem dX0_isAllowed_180 : decode cX0_isAllowed 180 = .ok (.iconst 4, 1) := by decide +kernel
theorem dX0_isAllowed_181 : decode cX0_isAllowed 181 = .ok (.invokestatic 46, 3) := by decide +kernel
theorem dX0_isAllowed_184 : decode cX0_isAllowed 184 = .ok (.invokestatic 79, 3) := by decide +kernel
theorem dX0_isAllowed_187 : decode cX0_isAllowed 187 = .ok (.ireturn, 1) := by decide +kernel
theorem dX0_isAllowed_188 : decode cX0_isAllowed 188 = .ok (.iconst 1, 1) := by decide +kernel
theorem dX0_isAllowed_189 : decode cX0_isAllowed 189 = .ok (.ireturn, 1) := by decide +kernel
set_option maxRecDepth 20000 in
theorem ggX0_isMovedWithin_X0_isLong : GoodIn wsX0_isMovedWithin wsX0_isLong := goodIn_rc _ [4] [] rfl (by decide +kernel) (by decide +kernel)
set_option maxRecDepth 20000 in
theorem gX0_isMovedWithin_X0_isLong : GoodIn wsX0_isMovedWithin (va_wsS RX0 73 yX0_isLong wsX0_isLong) := goodIn_app (goodIn_of _ (by decide +kernel)) ggX0_isMovedWithin_X0_isLong
set_option maxRecDepth 20000 in
theorem ggX0_isMovedWithin_X0_bits : GoodIn wsX0_isMovedWithin wsX0_bits := goodIn_rc _ [7, 10] [8, 9, 3] rfl (by decide +kernel) (by decide +kernel)
set_option maxRecDepth 20000 in
theorem gX0_isMovedWithin_X0_bits : GoodIn wsX0_isMovedWithin (va_wsS RX0 46 yX0_bits wsX0_bits) := goodIn_app (goodIn_of _ (by decide +kernel)) ggX0_isMovedWithin_X0_bits
theorem dX0_isMovedWithin_0 : decode cX0_isMovedWithin 0 = .ok (.iload_n 0, 1) := by decide +kernel
theorem dX0_isMovedWithin_1 : decode cX0_isMovedWithin 1 = .ok (.invokestatic 73, 3) := by decide +kernel
theorem dX0_isMovedWithin_4 : decode cX0_isMovedWithin 4 = .ok (.ifCond .ne 16, 3) := by decide +kernel
theorem dX0_isMovedWithin_7 : decode cX0_isMovedWithin 7 = .ok (.iload_n 0, 1) := by decide +kernel
theorem dX0_isMovedWithin_8 : decode cX0_isMovedWithin 8 = .ok (.bipush 10, 2) := by decide +kernel

theorem dX1_turned_0 : decode cX1_turned 0 = .ok (.aload_n 0, 1) := by decide +kernel
theorem dX1_turned_1 : decode cX1_turned 1 = .ok (.iload_n 1, 1) := by decide +kernel
theorem dX1_turned_2 : decode cX1_turned 2 = .ok (.invokevirtual 40, 3) := by decide +kernel
theorem dX1_turned_5 : decode cX1_turned 5 = .ok (.istore_n 2, 1) := by decide +kernel
theorem dX1_turned_6 : decode cX1_turned 6 = .ok (.iload_n 2, 1) := by decide +kernel
theorem dX1_turned_7 : decode cX1_turned 7 = .ok (.bipush 14, 2) := by decide +kernel
theorem dX1_turned_9 : decode cX1_turned 9 = .ok (.if_icmp .ne 7, 3) := by decide +kernel
theorem dX1_turned_12 : decode cX1_turned 12 = .ok (.iconst 1, 1) := by decide +kernel
theorem dX1_turned_13 : decode cX1_turned 13 = .ok (.goto 21, 3) := by decide +kernel
theorem dX1_turned_16 : decode cX1_turned 16 = .ok (.iload_n 2, 1) := by decide +kernel
theorem dX1_turned_17 : decode cX1_turned 17 = .ok (.bipush 15, 2) := by decide +kernel
theorem dX1_turned_19 : decode cX1_turned 19 = .ok (.if_icmp .eq 9, 3) := by decide +kernel
theorem dX1_turned_22 : decode cX1_turned 22 = .ok (.iload_n 2, 1) := by decide +kernel
theorem dX1_turned_23 : decode cX1_turned 23 = .ok (.bipush 16, 2) := by decide +kernel
theorem dX1_turned_25 : decode cX1_turned 25 = .ok (.if_icmp .ne 8, 3) := by decide +kernel
theorem dX1_turned_28 : decode cX1_turned 28 = .ok (.ldc 55, 2) := by decide +kernel
theorem dX1_turned_30 : decode cX1_turned 30 = .ok (.goto 4, 3) := by decide +kernel
theorem dX1_turned_33 : decode cX1_turned 33 = .ok (.iconst 0, 1) := by decide +kernel
theorem dX1_turned_34 : decode cX1_turned 34 = .ok (.istore_n 3, 1) := by decide +kernel
theorem dX1_turned_35 : decode cX1_turned 35 = .ok (.iload_n 1, 1) := by decide +kernel
theorem dX1_turned_36 : decode cX1_turned 36 = .ok (.iload_n 3, 1) := by decide +kernel
theorem dX1_turned_37 : decode cX1_turned 37 = .ok (.iand, 1) := by decide +kernel
theorem dX1_turned_38 : decode cX1_turned 38 = .ok (.ifCond .ne 9, 3) := by decide +kernel
theorem dX1_turned_41 : decode cX1_turned 41 = .ok (.iload_n 1, 1) := by decide +kernel
theorem dX1_turned_42 : decode cX1_turned 42 = .ok (.iload_n 3, 1) := by decide +kernel
theorem dX1_turned_43 : decode cX1_turned 43 = .ok (.iadd, 1) := by decide +kernel
theorem dX1_turned_44 : decode cX1_turned 44 = .ok (.goto 6, 3) := by decide +kernel
theorem dX1_turned_47 : decode cX1_turned 47 = .ok (.iload_n 1, 1) := by decide +kernel
theorem dX1_turned_48 : decode cX1_turned 48 = .ok (.iload_n 3, 1) := by decide +kernel
theorem dX1_turned_49 : decode cX1_turned 49 = .ok (.isub, 1) := by decide +kernel
theorem dX1_turned_50 : decode cX1_turned 50 = .ok (.ireturn, 1) := by decide +kernel
set_option maxRecDepth 20000 in
theorem ggX1_page_X1_kind : GoodIn wsX1_page wsX1_kind := goodIn_rc _ [9, 12, 15, 18, 21, 24, 27, 31, 35] [10, 11, 8, 13, 14, 16, 17, 19, 20, 22, 23, 25, 26, 28, 29, 30, 32, 33, 34] rfl (by decide +kernel) (by decide +kernel)
set_option maxRecDepth 20000 in
theorem gX1_page_X1_kind : GoodIn wsX1_page (wsV RX1 40 RX1 yX1_kind wsX1_kind) := goodIn_app (goodIn_of _ (by decide +kernel)) ggX1_page_X1_kind
set_option maxRecDepth 20000 in
theorem ggX1_page_X1_signed : GoodIn wsX1_page wsX1_signed := goodIn_rc _ [38] [] rfl (by decide +kernel) (by decide +kernel)
set_option maxRecDepth 20000 in
theorem gX1_page_X1_signed : GoodIn wsX1_page (va_wsS RX1 43 yX1_signed wsX1_signed) := goodIn_app (goodIn_of _ (by decide +kernel)) ggX1_page_X1_signed
set_option maxRecDepth 20000 in
theorem ggX1_page_X1_bits : GoodIn wsX1_page wsX1_bits := goodIn_rc _ [12] [] rfl (by decide +kernel) (by decide +kernel)
set_option maxRecDepth 20000 in
theorem gX1_page_X1_bits : GoodIn wsX1_page (va_wsS RX1 7 yX1_bits wsX1_bits) := goodIn_app (goodIn_of _ (by decide +kernel)) ggX1_page_X1_bits
theorem dX1_page_0 : decode cX1_page 0 = .ok (.aload_n 0, 1) := by decide +kernel
theorem dX1_page_1 : decode cX1_page 1 = .ok (.iload_n 1, 1) := by decide +kernel
theorem dX1_page_2 : decode cX1_page 2 = .ok (.invokevirtual 40, 3) := by decide +kernel
theorem dX1_page_5 : decode cX1_page 5 = .ok (.iconst 5, 1) := by decide +kernel
theorem dX1_page_6 : decode cX1_page 6 = .ok (.if_icmp .eq 7, 3) := by decide +kernel
theorem dX1_page_9 : decode cX1_page 9 = .ok (.ldc2_w 56, 3) := by decide +kernel
theorem dX1_page_12 : decode cX1_page 12 = .ok (.lreturn, 1) := by decide +kernel
theorem dX1_page_13 : decode cX1_page 13 = .ok (.ldc2_w 49, 3) := by decide +kernel
theorem dX1_page_16 : decode cX1_page 16 = .ok (.iload_n 1, 1) := by decide +kernel
theorem dX1_page_17 : decode cX1_page 17 = .ok (.iconst 5, 1) := by decide +kernel
theorem dX1_page_18 : decode cX1_page 18 = .ok (.bipush 23, 2) := by decide +kernel
theorem dX1_page_20 : decode cX1_page 20 = .ok (.invokestatic 43, 3) := by decide +kernel
theorem dX1_page_23 : decode cX1_page 23 = .ok (.i2l, 1) := by decide +kernel
theorem dX1_page_24 : decode cX1_page 24 = .ok (.lmul, 1) := by decide +kernel
theorem dX1_page_25 : decode cX1_page 25 = .ok (.iload_n 1, 1) := by decide +kernel
theorem dX1_page_26 : decode cX1_page 26 = .ok (.bipush 29, 2) := by decide +kernel
theorem dX1_page_28 : decode cX1_page 28 = .ok (.bipush 30, 2) := by decide +kernel
theorem dX1_page_30 : decode cX1_page 30 = .ok (.invokestatic 7, 3) := by decide +kernel
theorem dX1_page_33 : decode cX1_page 33 = .ok (.i2l, 1) := by decide +kernel
theorem dX1_page_34 : decode cX1_page 34 = .ok (.ladd, 1) := by decide +kernel
theorem dX1_page_35 : decode cX1_page 35 = .ok (.lstore 4, 2) := by decide +kernel
theorem dX1_page_37 : decode cX1_page 37 = .ok (.lload_n 2, 1) := by decide +kernel
theorem dX1_page_38 : decode cX1_page 38 = .ok (.lload_n 2, 1) := by decide +kernel
theorem dX1_page_39 : decode cX1_page 39 = .ok (.ldc2_w 58, 3) := by decide +kernel
theorem dX1_page_42 : decode cX1_page 42 = .ok (.land, 1) := by decide +kernel
theorem dX1_page_43 : decode cX1_page 43 = .ok (.lsub, 1) := by decide +kernel
theorem dX1_page_44 : decode cX1_page 44 = .ok (.ldc2_w 60, 3) := by decide +kernel
theorem dX1_page_47 : decode cX1_page 47 = .ok (.lload 4, 2) := by decide +kernel
theorem dX1_page_49 : decode cX1_page 49 = .ok (.lmul, 1) := by decide +kernel
theorem dX1_page_50 : decode cX1_page 50 = .ok (.ladd, 1) := by decide +kernel
theorem dX1_page_51 : decode cX1_page 51 = .ok (.lreturn, 1) := by decide +kernel
set_option maxRecDepth 20000 in
theorem ggX1_paging_X1_kind : GoodIn wsX1_paging wsX1_kind := goodIn_rc _ [14, 17, 20, 23, 26, 29, 32, 36, 40] [15, 16, 13, 18, 19, 21, 22, 24, 25, 27, 28, 30, 31, 33, 34, 35, 37, 38, 39] rfl (by decide +kernel) (by decide +kernel)
set_option maxRecDepth 20000 in
theorem gX1_paging_X1_kind : GoodIn wsX1_paging (wsV RX1 40 RX1 yX1_kind wsX1_kind) := goodIn_app (goodIn_of _ (by decide +kernel)) ggX1_paging_X1_kind
set_option maxRecDepth 20000 in
theorem ggX1_paging_X1_bits : GoodIn wsX1_paging wsX1_bits := goodIn_rc _ [17] [] rfl (by decide +kernel) (by decide +kernel)
set_option maxRecDepth 20000 in
theorem gX1_paging_X1_bits : GoodIn wsX1_paging (va_wsS RX1 7 yX1_bits wsX1_bits) := goodIn_app (goodIn_of _ (by decide +kernel)) ggX1_paging_X1_bits
theorem dX1_paging_0 : decode cX1_paging 0 = .ok (.aload_n 0, 1) := by decide +kernel
theorem dX1_paging_1 : decode cX1_paging 1 = .ok (.iload_n 1, 1) := by decide +kernel
theorem dX1_paging_2 : decode cX1_paging 2 = .ok (.invokevirtual 40, 3) := by decide +kernel
theorem dX1_paging_5 : decode cX1_paging 5 = .ok (.iconst 5, 1) := by decide +kernel
theorem dX1_paging_6 : decode cX1_paging 6 = .ok (.if_icmp .eq 5, 3) := by decide +kernel
theorem dX1_paging_9 : decode cX1_paging 9 = .ok (.iload_n 1, 1) := by decide +kernel
theorem dX1_paging_10 : decode cX1_paging 10 = .ok (.ireturn, 1) := by decide +kernel
theorem dX1_paging_11 : decode cX1_paging 11 = .ok (.lload 4, 2) := by decide +kernel
theorem dX1_paging_13 : decode cX1_paging 13 = .ok (.lload 4, 2) := by decide +kernel
theorem dX1_paging_15 : decode cX1_paging 15 = .ok (.ldc2_w 58, 3) := by decide +kernel
theorem dX1_paging_18 : decode cX1_paging 18 = .ok (.land, 1) := by decide +kernel
theorem dX1_paging_19 : decode cX1_paging 19 = .ok (.lsub, 1) := by decide +kernel
theorem dX1_paging_20 : decode cX1_paging 20 = .ok (.lload_n 2, 1) := by decide +kernel
theorem dX1_paging_21 : decode cX1_paging 21 = .ok (.lload_n 2, 1) := by decide +kernel
theorem dX1_paging_22 : decode cX1_paging 22 = .ok (.ldc2_w 58, 3) := by decide +kernel
theorem dX1_paging_25 : decode cX1_paging 25 = .ok (.land, 1) := by decide +kernel
theorem dX1_paging_26 : decode cX1_paging 26 = .ok (.lsub, 1) := by decide +kernel
theorem dX1_paging_27 : decode cX1_paging 27 = .ok (.lsub, 1) := by decide +kernel
theorem dX1_paging_28 : decode cX1_paging 28 = .ok (.ldc2_w 60, 3) := by decide +kernel
theorem dX1_paging_31 : decode cX1_paging 31 = .ok (.ldiv, 1) := by decide +kernel
theorem dX1_paging_32 : decode cX1_paging 32 = .ok (.lstore 6, 2) := by decide +kernel
theorem dX1_paging_34 : decode cX1_paging 34 = .ok (.lload 6, 2) := by decide +kernel
theorem dX1_paging_36 : decode cX1_paging 36 = .ok (.ldc2_w 62, 3) := by decide +kernel
theorem dX1_paging_39 : decode cX1_paging 39 = .ok (.lcmp, 1) := by decide +kernel
theorem dX1_paging_40 : decode cX1_paging 40 = .ok (.ifCond .lt 12, 3) := by decide +kernel
theorem dX1_paging_43 : decode cX1_paging 43 = .ok (.lload 6, 2) := by decide +kernel
theorem dX1_paging_45 : decode cX1_paging 45 = .ok (.ldc2_w 64, 3) := by decide +kernel
theorem dX1_paging_48 : decode cX1_paging 48 = .ok (.lcmp, 1) := by decide +kernel
theorem dX1_paging_49 : decode cX1_paging 49 = .ok (.ifCond .le 5, 3) := by decide +kernel
theorem dX1_paging_52 : decode cX1_paging 52 = .ok (.iload_n 1, 1) := by decide +kernel
theorem dX1_paging_53 : decode cX1_paging 53 = .ok (.ireturn, 1) := by decide +kernel
theorem dX1_paging_54 : decode cX1_paging 54 = .ok (.lload 6, 2) := by decide +kernel
theorem dX1_paging_56 : decode cX1_paging 56 = .ok (.ldc2_w 66, 3) := by decide +kernel
theorem dX1_paging_59 : decode cX1_paging 59 = .ok (.land, 1) := by decide +kernel
theorem dX1_paging_60 : decode cX1_paging 60 = .ok (.l2i, 1) := by decide +kernel
theorem dX1_paging_61 : decode cX1_paging 61 = .ok (.istore 8, 2) := by decide +kernel
theorem dX1_paging_63 : decode cX1_paging 63 = .ok (.iload_n 1, 1) := by decide +kernel
theorem dX1_paging_64 : decode cX1_paging 64 = .ok (.iconst 0, 1) := by decide +kernel
theorem dX1_paging_65 : decode cX1_paging 65 = .ok (.iconst 4, 1) := by decide +kernel
theorem dX1_paging_66 : decode cX1_paging 66 = .ok (.invokestatic 7, 3) := by decide +kernel
theorem dX1_paging_69 : decode cX1_paging 69 = .ok (.ldc 68, 2) := by decide +kernel
theorem dX1_paging_71 : decode cX1_paging 71 = .ok (.isub, 1) := by decide +kernel
theorem dX1_paging_72 : decode cX1_paging 72 = .ok (.iload 8, 2) := by decide +kernel
theorem dX1_paging_74 : decode cX1_paging 74 = .ok (.ldc 69, 2) := by decide +kernel
theorem dX1_paging_76 : decode cX1_paging 76 = .ok (.imul, 1) := by decide +kernel
theorem dX1_paging_77 : decode cX1_paging 77 = .ok (.iadd, 1) := by decide +kernel
theorem dX1_paging_78 : decode cX1_paging 78 = .ok (.lload 6, 2) := by decide +kernel
theorem dX1_paging_80 : decode cX1_paging 80 = .ok (.iload 8, 2) := by decide +kernel
theorem dX1_paging_82 : decode cX1_paging 82 = .ok (.i2l, 1) := by decide +kernel
theorem dX1_paging_83 : decode cX1_paging 83 = .ok (.lsub, 1) := by decide +kernel
theorem dX1_paging_84 : decode cX1_paging 84 = .ok (.ldc2_w 49, 3) := by decide +kernel
theorem dX1_paging_87 : decode cX1_paging 87 = .ok (.ldiv, 1) := by decide +kernel
theorem dX1_paging_88 : decode cX1_paging 88 = .ok (.ldc2_w 70, 3) := by decide +kernel
theorem dX1_paging_91 : decode cX1_paging 91 = .ok (.land, 1) := by decide +kernel
theorem dX1_paging_92 : decode cX1_paging 92 = .ok (.l2i, 1) := by decide +kernel
theorem dX1_paging_93 : decode cX1_paging 93 = .ok (.bipush 32, 2) := by decide +kernel
theorem dX1_paging_95 : decode cX1_paging 95 = .ok (.imul, 1) := by decide +kernel
theorem dX1_paging_96 : decode cX1_paging 96 = .ok (.iadd, 1) := by decide +kernel
theorem dX1_paging_97 : decode cX1_paging 97 = .ok (.ireturn, 1) := by decide +kernel
set_option maxRecDepth 20000 in
theorem ggX1_goesOn_X1_kind : GoodIn wsX1_goesOn wsX1_kind := goodIn_rc _ [5, 8, 11, 14, 17, 20, 23, 27, 31] [6, 7, 4, 9, 10, 12, 13, 15, 16, 18, 19, 21, 22, 24, 25, 26, 28, 29, 30] rfl (by decide +kernel) (by decide +kernel)
set_option maxRecDepth 20000 in
theorem gX1_goesOn_X1_kind : GoodIn wsX1_goesOn (wsV RX1 40 RX1 yX1_kind wsX1_kind) := goodIn_app (goodIn_of _ (by decide +kernel)) ggX1_goesOn_X1_kind
theorem dX1_goesOn_0 : decode cX1_goesOn 0 = .ok (.aload_n 0, 1) := by decide +kernel
theorem dX1_goesOn_1 : decode cX1_goesOn 1 = .ok (.iload_n 1, 1) := by decide +kernel
theorem dX1_goesOn_2 : decode cX1_goesOn 2 = .ok (.invokevirtual 40, 3) := by decide +kernel
theorem dX1_goesOn_5 : decode cX1_goesOn 5 = .ok (.istore_n 2, 1) := by decide +kernel
theorem dX1_goesOn_6 : decode cX1_goesOn 6 = .ok (.iload_n 2, 1) := by decide +kernel
theorem dX1_goesOn_7 : decode cX1_goesOn 7 = .ok (.ifCond .le 25, 3) := by decide +kernel
theorem dX1_goesOn_10 : decode cX1_goesOn 10 = .ok (.iload_n 2, 1) := by decide +kernel
theorem dX1_goesOn_11 : decode cX1_goesOn 11 = .ok (.bipush 12, 2) := by decide +kernel
theorem dX1_goesOn_13 : decode cX1_goesOn 13 = .ok (.if_icmp .eq 19, 3) := by decide +kernel
theorem dX1_goesOn_16 : decode cX1_goesOn 16 = .ok (.iload_n 2, 1) := by decide +kernel
theorem dX1_goesOn_17 : decode cX1_goesOn 17 = .ok (.bipush 17, 2) := by decide +kernel
theorem dX1_goesOn_19 : decode cX1_goesOn 19 = .ok (.if_icmp .eq 13, 3) := by decide +kernel
theorem dX1_goesOn_22 : decode cX1_goesOn 22 = .ok (.iload_n 2, 1) := by decide +kernel
theorem dX1_goesOn_23 : decode cX1_goesOn 23 = .ok (.bipush 19, 2) := by decide +kernel
theorem dX1_goesOn_25 : decode cX1_goesOn 25 = .ok (.if_icmp .eq 7, 3) := by decide +kernel
theorem dX1_goesOn_28 : decode cX1_goesOn 28 = .ok (.iconst 1, 1) := by decide +kernel
theorem dX1_goesOn_29 : decode cX1_goesOn 29 = .ok (.goto 4, 3) := by decide +kernel
theorem dX1_goesOn_32 : decode cX1_goesOn 32 = .ok (.iconst 0, 1) := by decide +kernel
theorem dX1_goesOn_33 : decode cX1_goesOn 33 = .ok (.ireturn, 1) := by decide +kernel
set_option maxRecDepth 20000 in
theorem ggX1_register_X1_kind : GoodIn wsX1_register wsX1_kind := goodIn_rc _ [5, 8, 11, 14, 17, 20, 23, 27, 31] [6, 7, 4, 9, 10, 12, 13, 15, 16, 18, 19, 21, 22, 24, 25, 26, 28, 29, 30] rfl (by decide +kernel) (by decide +kernel)
set_option maxRecDepth 20000 in
theorem gX1_register_X1_kind : GoodIn wsX1_register (wsV RX1 40 RX1 yX1_kind wsX1_kind) := goodIn_app (goodIn_of _ (by decide +kernel)) ggX1_register_X1_kind
set_option maxRecDepth 20000 in
theorem ggX1_register_X1_bits : GoodIn wsX1_register wsX1_bits := goodIn_rc _ [8] [] rfl (by decide +kernel) (by decide +kernel)
set_option maxRecDepth 20000 in
theorem gX1_register_X1_bits : GoodIn wsX1_register (va_wsS RX1 7 yX1_bits wsX1_bits) := goodIn_app (goodIn_of _ (by decide +kernel)) ggX1_register_X1_bits
theorem dX1_register_0 : decode cX1_register 0 = .ok (.aload_n 0, 1) := by decide +kernel
theorem dX1_register_1 : decode cX1_register 1 = .ok (.iload_n 1, 1) := by decide +kernel
theorem dX1_register_2 : decode cX1_register 2 = .ok (.invokevirtual 40, 3) := by decide +kernel
theorem dX1_register_5 : decode cX1_register 5 = .ok (.istore_n 3, 1) := by decide +kernel
theorem dX1_register_6 : decode cX1_register 6 = .ok (.iload_n 2, 1) := by decide +kernel
theorem dX1_register_7 : decode cX1_register 7 = .ok (.ifCond .ne 33, 3) := by decide +kernel
theorem dX1_register_10 : decode cX1_register 10 = .ok (.iload_n 3, 1) := by decide +kernel
theorem dX1_register_11 : decode cX1_register 11 = .ok (.ifCond .le 9, 3) := by decide +kernel
theorem dX1_register_14 : decode cX1_register 14 = .ok (.iload_n 3, 1) := by decide +kernel
theorem dX1_register_15 : decode cX1_register 15 = .ok (.bipush 12, 2) := by decide +kernel
theorem dX1_register_17 : decode cX1_register 17 = .ok (.if_icmp .lt 15, 3) := by decide +kernel
theorem dX1_register_20 : decode cX1_register 20 = .ok (.iload_n 3, 1) := by decide +kernel
theorem dX1_register_21 : decode cX1_register 21 = .ok (.bipush 15, 2) := by decide +kernel
theorem dX1_register_23 : decode cX1_register 23 = .ok (.if_icmp .eq 9, 3) := by decide +kernel
theorem dX1_register_26 : decode cX1_register 26 = .ok (.iload_n 3, 1) := by decide +kernel
theorem dX1_register_27 : decode cX1_register 27 = .ok (.bipush 16, 2) := by decide +kernel
theorem dX1_register_29 : decode cX1_register 29 = .ok (.if_icmp .ne 7, 3) := by decide +kernel
theorem dX1_register_32 : decode cX1_register 32 = .ok (.iconst 1, 1) := by decide +kernel
theorem dX1_register_33 : decode cX1_register 33 = .ok (.goto 114, 3) := by decide +kernel
theorem dX1_register_36 : decode cX1_register 36 = .ok (.iconst 0, 1) := by decide +kernel
theorem dX1_register_37 : decode cX1_register 37 = .ok (.goto 110, 3) := by decide +kernel
theorem dX1_register_40 : decode cX1_register 40 = .ok (.iload_n 2, 1) := by decide +kernel
theorem dX1_register_41 : decode cX1_register 41 = .ok (.iconst 1, 1) := by decide +kernel
theorem dX1_register_42 : decode cX1_register 42 = .ok (.if_icmp .ne 43, 3) := by decide +kernel
theorem dX1_register_45 : decode cX1_register 45 = .ok (.iload_n 3, 1) := by decide +kernel
theorem dX1_register_46 : decode cX1_register 46 = .ok (.ifCond .le 8, 3) := by decide +kernel
theorem dX1_register_49 : decode cX1_register 49 = .ok (.iload_n 3, 1) := by decide +kernel
theorem dX1_register_50 : decode cX1_register 50 = .ok (.iconst 4, 1) := by decide +kernel
theorem dX1_register_51 : decode cX1_register 51 = .ok (.if_icmp .lt 26, 3) := by decide +kernel
theorem dX1_register_54 : decode cX1_register 54 = .ok (.iload_n 3, 1) := by decide +kernel
theorem dX1_register_55 : decode cX1_register 55 = .ok (.iconst 5, 1) := by decide +kernel
theorem dX1_register_56 : decode cX1_register 56 = .ok (.if_icmp .le 9, 3) := by decide +kernel
theorem dX1_register_59 : decode cX1_register 59 = .ok (.iload_n 3, 1) := by decide +kernel
theorem dX1_register_60 : decode cX1_register 60 = .ok (.bipush 12, 2) := by decide +kernel
theorem dX1_register_62 : decode cX1_register 62 = .ok (.if_icmp .lt 15, 3) := by decide +kernel
theorem dX1_register_65 : decode cX1_register 65 = .ok (.iload_n 3, 1) := by decide +kernel
theorem dX1_register_66 : decode cX1_register 66 = .ok (.bipush 16, 2) := by decide +kernel
theorem dX1_register_68 : decode cX1_register 68 = .ok (.if_icmp .le 13, 3) := by decide +kernel
theorem dX1_register_71 : decode cX1_register 71 = .ok (.iload_n 3, 1) := by decide +kernel
theorem dX1_register_72 : decode cX1_register 72 = .ok (.bipush 20, 2) := by decide +kernel
theorem dX1_register_74 : decode cX1_register 74 = .ok (.if_icmp .ge 7, 3) := by decide +kernel
theorem dX1_register_77 : decode cX1_register 77 = .ok (.iconst 1, 1) := by decide +kernel
theorem dX1_register_78 : decode cX1_register 78 = .ok (.goto 69, 3) := by decide +kernel
theorem dX1_register_81 : decode cX1_register 81 = .ok (.iconst 0, 1) := by decide +kernel
theorem dX1_register_82 : decode cX1_register 82 = .ok (.goto 65, 3) := by decide +kernel
theorem dX1_register_85 : decode cX1_register 85 = .ok (.iload_n 2, 1) := by decide +kernel
theorem dX1_register_86 : decode cX1_register 86 = .ok (.iconst 2, 1) := by decide +kernel
theorem dX1_register_87 : decode cX1_register 87 = .ok (.if_icmp .ne 38, 3) := by decide +kernel
theorem dX1_register_90 : decode cX1_register 90 = .ok (.iload_n 3, 1) := by decide +kernel
theorem dX1_register_91 : decode cX1_register 91 = .ok (.iconst 2, 1) := by decide +kernel
theorem dX1_register_92 : decode cX1_register 92 = .ok (.if_icmp .eq 25, 3) := by decide +kernel
theorem dX1_register_95 : decode cX1_register 95 = .ok (.iload_n 3, 1) := by decide +kernel
theorem dX1_register_96 : decode cX1_register 96 = .ok (.iconst 3, 1) := by decide +kernel
theorem dX1_register_97 : decode cX1_register 97 = .ok (.if_icmp .eq 20, 3) := by decide +kernel
theorem dX1_register_100 : decode cX1_register 100 = .ok (.iload_n 3, 1) := by decide +kernel
theorem dX1_register_101 : decode cX1_register 101 = .ok (.iconst 5, 1) := by decide +kernel
theorem dX1_register_102 : decode cX1_register 102 = .ok (.if_icmp .le 9, 3) := by decide +kernel
theorem dX1_register_105 : decode cX1_register 105 = .ok (.iload_n 3, 1) := by decide +kernel
theorem dX1_register_106 : decode cX1_register 106 = .ok (.bipush 9, 2) := by decide +kernel
theorem dX1_register_108 : decode cX1_register 108 = .ok (.if_icmp .lt 9, 3) := by decide +kernel
theorem dX1_register_111 : decode cX1_register 111 = .ok (.iload_n 3, 1) := by decide +kernel
theorem dX1_register_112 : decode cX1_register 112 = .ok (.bipush 10, 2) := by decide +kernel
theorem dX1_register_114 : decode cX1_register 114 = .ok (.if_icmp .ne 7, 3) := by decide +kernel
theorem dX1_register_117 : decode cX1_register 117 = .ok (.iconst 1, 1) := by decide +kernel
theorem dX1_register_118 : decode cX1_register 118 = .ok (.goto 29, 3) := by decide +kernel
theorem dX1_register_121 : decode cX1_register 121 = .ok (.iconst 0, 1) := by decide +kernel
theorem dX1_register_122 : decode cX1_register 122 = .ok (.goto 25, 3) := by decide +kernel
theorem dX1_register_125 : decode cX1_register 125 = .ok (.iload_n 2, 1) := by decide +kernel
theorem dX1_register_126 : decode cX1_register 126 = .ok (.iconst 3, 1) := by decide +kernel
theorem dX1_register_127 : decode cX1_register 127 = .ok (.if_icmp .ne 19, 3) := by decide +kernel
theorem dX1_register_130 : decode cX1_register 130 = .ok (.iload_n 3, 1) := by decide +kernel
theorem dX1_register_131 : decode cX1_register 131 = .ok (.bipush 6, 2) := by decide +kernel
theorem dX1_register_133 : decode cX1_register 133 = .ok (.if_icmp .eq 9, 3) := by decide +kernel
theorem dX1_register_136 : decode cX1_register 136 = .ok (.iload_n 3, 1) := by decide +kernel
theorem dX1_register_137 : decode cX1_register 137 = .ok (.bipush 11, 2) := by decide +kernel
theorem dX1_register_139 : decode cX1_register 139 = .ok (.if_icmp .ne 7, 3) := by decide +kernel
theorem dX1_register_142 : decode cX1_register 142 = .ok (.iconst 1, 1) := by decide +kernel
theorem dX1_register_143 : decode cX1_register 143 = .ok (.goto 4, 3) := by decide +kernel
theorem dX1_register_146 : decode cX1_register 146 = .ok (.iconst 0, 1) := by decide +kernel
theorem dX1_register_147 : decode cX1_register 147 = .ok (.istore 4, 2) := by decide +kernel
theorem dX1_register_149 : decode cX1_register 149 = .ok (.iload 4, 2) := by decide +kernel
theorem dX1_register_151 : decode cX1_register 151 = .ok (.ifCond .ne 5, 3) := by decide +kernel
theorem dX1_register_154 : decode cX1_register 154 = .ok (.iconst (-1), 1) := by decide +kernel
theorem dX1_register_155 : decode cX1_register 155 = .ok (.ireturn, 1) := by decide +kernel
theorem dX1_register_156 : decode cX1_register 156 = .ok (.iload_n 2, 1) := by decide +kernel
theorem dX1_register_157 : decode cX1_register 157 = .ok (.ifCond .ne 7, 3) := by decide +kernel
theorem dX1_register_160 : decode cX1_register 160 = .ok (.iconst 0, 1) := by decide +kernel
theorem dX1_register_161 : decode cX1_register 161 = .ok (.goto 24, 3) := by decide +kernel
theorem dX1_register_164 : decode cX1_register 164 = .ok (.iload_n 2, 1) := by decide +kernel
theorem dX1_register_165 : decode cX1_register 165 = .ok (.iconst 1, 1) := by decide +kernel
theorem dX1_register_166 : decode cX1_register 166 = .ok (.if_icmp .ne 7, 3) := by decide +kernel
theorem dX1_register_169 : decode cX1_register 169 = .ok (.iconst 5, 1) := by decide +kernel
theorem dX1_register_170 : decode cX1_register 170 = .ok (.goto 15, 3) := by decide +kernel
theorem dX1_register_173 : decode cX1_register 173 = .ok (.iload_n 2, 1) := by decide +kernel
theorem dX1_register_174 : decode cX1_register 174 = .ok (.iconst 2, 1) := by decide +kernel
theorem dX1_register_175 : decode cX1_register 175 = .ok (.if_icmp .ne 8, 3) := by decide +kernel
theorem dX1_register_178 : decode cX1_register 178 = .ok (.bipush 16, 2) := by decide +kernel
theorem dX1_register_180 : decode cX1_register 180 = .ok (.goto 5, 3) := by decide +kernel
theorem dX1_register_183 : decode cX1_register 183 = .ok (.bipush 10, 2) := by decide +kernel
theorem dX1_register_185 : decode cX1_register 185 = .ok (.istore 5, 2) := by decide +kernel
theorem dX1_register_187 : decode cX1_register 187 = .ok (.iload_n 1, 1) := by decide +kernel
theorem dX1_register_188 : decode cX1_register 188 = .ok (.iload 5, 2) := by decide +kernel
theorem dX1_register_190 : decode cX1_register 190 = .ok (.iload 5, 2) := by decide +kernel
theorem dX1_register_192 : decode cX1_register 192 = .ok (.iconst 4, 1) := by decide +kernel
theorem dX1_register_193 : decode cX1_register 193 = .ok (.iadd, 1) := by decide +kernel
theorem dX1_register_194 : decode cX1_register 194 = .ok (.invokestatic 7, 3) := by decide +kernel
theorem dX1_register_197 : decode cX1_register 197 = .ok (.ireturn, 1) := by decide +kernel
set_option maxRecDepth 20000 in
theorem ggL_law_X0_init : GoodIn wsL_law wsX0_init := goodIn_rc _ [9, 12] [10, 11] rfl (by decide +kernel) (by decide +kernel)
set_option maxRecDepth 20000 in
theorem gL_law_X0_init : GoodIn wsL_law (wsX0_init) := ggL_law_X0_init
set_option maxRecDepth 20000 in
theorem ggL_law_X1_init : GoodIn wsL_law wsX1_init := goodIn_rc _ [15, 12] [16, 11] rfl (by decide +kernel) (by decide +kernel)
set_option maxRecDepth 20000 in
theorem gL_law_X1_init : GoodIn wsL_law (wsX1_init) := ggL_law_X1_init
set_option maxRecDepth 20000 in
theorem ggL_law_X0_kind : GoodIn wsL_law wsX0_kind := goodIn_rc _ [20, 23, 27, 30, 33, 36, 39, 42, 45, 48, 51] [21, 22, 2, 24, 25, 26, 28, 29, 31, 32, 34, 35, 37, 38, 40, 41, 43, 44, 46, 47, 49, 50] rfl (by decide +kernel) (by decide +kernel)
set_option maxRecDepth 20000 in
theorem gL_law_X0_kind : GoodIn wsL_law (wsV RL 13 RX0 yX0_kind wsX0_kind) := goodIn_app (goodIn_of _ (by decide +kernel)) ggL_law_X0_kind
set_option maxRecDepth 20000 in
theorem ggL_law_X1_kind : GoodIn wsL_law wsX1_kind := goodIn_rc _ [55, 58, 61, 64, 67, 70, 73, 77, 81] [56, 57, 5, 59, 60, 62, 63, 65, 66, 68, 69, 71, 72, 74, 75, 76, 78, 79, 80] rfl (by decide +kernel) (by decide +kernel)
set_option maxRecDepth 20000 in
theorem gL_law_X1_kind : GoodIn wsL_law (wsV RL 17 RX1 yX1_kind wsX1_kind) := goodIn_app (goodIn_of _ (by decide +kernel)) ggL_law_X1_kind
set_option maxRecDepth 20000 in
theorem ggL_law_X0_by : GoodIn wsL_law wsX0_by := goodIn_rc _ [85, 20, 23, 27, 30, 33, 36, 39, 42, 45, 48, 51, 89, 92, 95, 98] [86, 18, 19, 2, 21, 22, 24, 25, 26, 28, 29, 31, 32, 34, 35, 37, 38, 40, 41, 43, 44, 46, 47, 49, 50, 87, 88, 90, 91, 93, 94, 96, 97] rfl (by decide +kernel) (by decide +kernel)
set_option maxRecDepth 20000 in
theorem gL_law_X0_by : GoodIn wsL_law (wsV RL 18 RX0 yX0_by wsX0_by) := goodIn_app (goodIn_of _ (by decide +kernel)) ggL_law_X0_by
set_option maxRecDepth 20000 in
theorem ggL_law_X1_by : GoodIn wsL_law wsX1_by := goodIn_rc _ [102, 55, 58, 61, 64, 67, 70, 73, 77, 81, 106] [103, 53, 54, 5, 56, 57, 59, 60, 62, 63, 65, 66, 68, 69, 71, 72, 74, 75, 76, 78, 79, 80, 104, 105] rfl (by decide +kernel) (by decide +kernel)
set_option maxRecDepth 20000 in
theorem gL_law_X1_by : GoodIn wsL_law (wsV RL 21 RX1 yX1_by wsX1_by) := goodIn_app (goodIn_of _ (by decide +kernel)) ggL_law_X1_by
set_option maxRecDepth 20000 in
theorem ggL_law_X0_going : GoodIn wsL_law wsX0_going := goodIn_rc _ [110, 20, 23, 27, 30, 33, 36, 39, 42, 45, 48, 51, 113, 89, 95, 92] [86, 18, 19, 2, 21, 22, 24, 25, 26, 28, 29, 31, 32, 34, 35, 37, 38, 40, 41, 43, 44, 46, 47, 49, 50, 111, 112, 114, 87, 88, 93, 94, 90, 91] rfl (by decide +kernel) (by decide +kernel)
set_option maxRecDepth 20000 in
theorem gL_law_X0_going : GoodIn wsL_law (wsV RL 22 RX0 yX0_going wsX0_going) := goodIn_app (goodIn_of _ (by decide +kernel)) ggL_law_X0_going
set_option maxRecDepth 20000 in
theorem ggL_law_X1_going : GoodIn wsL_law wsX1_going := goodIn_rc _ [118, 122, 55, 58, 61, 64, 67, 70, 73, 77, 81, 126] [119, 120, 121, 5, 123, 103, 53, 54, 56, 57, 59, 60, 62, 63, 65, 66, 68, 69, 71, 72, 74, 75, 76, 78, 79, 80, 124, 125, 127, 128, 129] rfl (by decide +kernel) (by decide +kernel)
set_option maxRecDepth 20000 in
theorem gL_law_X1_going : GoodIn wsL_law (wsV RL 26 RX1 yX1_going wsX1_going) := goodIn_app (goodIn_of _ (by decide +kernel)) ggL_law_X1_going
set_option maxRecDepth 20000 in
theorem ggL_law_X0_reaches : GoodIn wsL_law wsX0_reaches := goodIn_rc _ [133, 20, 23, 27, 30, 33, 36, 39, 42, 45, 48, 51, 113, 89, 95] [86, 18, 19, 2, 21, 22, 24, 25, 26, 28, 29, 31, 32, 34, 35, 37, 38, 40, 41, 43, 44, 46, 47, 49, 50, 111, 112, 114, 87, 88, 93, 94] rfl (by decide +kernel) (by decide +kernel)
set_option maxRecDepth 20000 in
theorem gL_law_X0_reaches : GoodIn wsL_law (wsV RL 29 RX0 yX0_reaches wsX0_reaches) := goodIn_app (goodIn_of _ (by decide +kernel)) ggL_law_X0_reaches
set_option maxRecDepth 20000 in
theorem ggL_law_X1_reaches : GoodIn wsL_law wsX1_reaches := goodIn_rc _ [122, 55, 58, 61, 64, 67, 70, 73, 77, 81, 126] [123, 103, 53, 54, 5, 56, 57, 59, 60, 62, 63, 65, 66, 68, 69, 71, 72, 74, 75, 76, 78, 79, 80, 124, 125, 127, 128, 129] rfl (by decide +kernel) (by decide +kernel)
set_option maxRecDepth 20000 in
theorem gL_law_X1_reaches : GoodIn wsL_law (wsV RL 33 RX1 yX1_reaches wsX1_reaches) := goodIn_app (goodIn_of _ (by decide +kernel)) ggL_law_X1_reaches
set_option maxRecDepth 20000 in
theorem ggL_law_X0_turned : GoodIn wsL_law wsX0_turned := goodIn_rc _ [138, 20, 23, 27, 30, 33, 36, 39, 42, 45, 48, 51] [139, 86, 18, 19, 2, 21, 22, 24, 25, 26, 28, 29, 31, 32, 34, 35, 37, 38, 40, 41, 43, 44, 46, 47, 49, 50] rfl (by decide +kernel) (by decide +kernel)
set_option maxRecDepth 20000 in
theorem gL_law_X0_turned : GoodIn wsL_law (wsV RL 34 RX0 yX0_turned wsX0_turned) := goodIn_app (goodIn_of _ (by decide +kernel)) ggL_law_X0_turned
set_option maxRecDepth 20000 in
theorem ggL_law_X1_turned : GoodIn wsL_law wsX1_turned := goodIn_rc _ [143, 55, 58, 61, 64, 67, 70, 73, 77, 81] [144, 103, 53, 54, 5, 56, 57, 59, 60, 62, 63, 65, 66, 68, 69, 71, 72, 74, 75, 76, 78, 79, 80] rfl (by decide +kernel) (by decide +kernel)
set_option maxRecDepth 20000 in
theorem gL_law_X1_turned : GoodIn wsL_law (wsV RL 37 RX1 yX1_turned wsX1_turned) := goodIn_app (goodIn_of _ (by decide +kernel)) ggL_law_X1_turned
set_option maxRecDepth 20000 in
theorem ggL_law_X0_page : GoodIn wsL_law wsX0_page := goodIn_rc _ [148, 20, 23, 27, 30, 33, 36, 39, 42, 45, 48, 51, 98] [149, 150, 86, 18, 19, 2, 21, 22, 24, 25, 26, 28, 29, 31, 32, 34, 35, 37, 38, 40, 41, 43, 44, 46, 47, 49, 50, 96, 97] rfl (by decide +kernel) (by decide +kernel)
set_option maxRecDepth 20000 in
theorem gL_law_X0_page : GoodIn wsL_law (wsV RL 38 RX0 yX0_page wsX0_page) := goodIn_app (goodIn_of _ (by decide +kernel)) ggL_law_X0_page
set_option maxRecDepth 20000 in
theorem ggL_law_X1_page : GoodIn wsL_law wsX1_page := goodIn_rc _ [154, 55, 58, 61, 64, 67, 70, 73, 77, 81, 106] [155, 123, 156, 157, 103, 53, 54, 5, 56, 57, 59, 60, 62, 63, 65, 66, 68, 69, 71, 72, 74, 75, 76, 78, 79, 80, 104, 105] rfl (by decide +kernel) (by decide +kernel)
set_option maxRecDepth 20000 in
theorem gL_law_X1_page : GoodIn wsL_law (wsV RL 42 RX1 yX1_page wsX1_page) := goodIn_app (goodIn_of _ (by decide +kernel)) ggL_law_X1_page
set_option maxRecDepth 20000 in
theorem ggL_law_X0_paging : GoodIn wsL_law wsX0_paging := goodIn_rc _ [161, 20, 23, 27, 30, 33, 36, 39, 42, 45, 48, 51] [162, 163, 164, 86, 18, 19, 2, 21, 22, 24, 25, 26, 28, 29, 31, 32, 34, 35, 37, 38, 40, 41, 43, 44, 46, 47, 49, 50] rfl (by decide +kernel) (by decide +kernel)
set_option maxRecDepth 20000 in
theorem gL_law_X0_paging : GoodIn wsL_law (wsV RL 43 RX0 yX0_paging wsX0_paging) := goodIn_app (goodIn_of _ (by decide +kernel)) ggL_law_X0_paging
set_option maxRecDepth 20000 in
theorem ggL_law_X1_paging : GoodIn wsL_law wsX1_paging := goodIn_rc _ [168, 55, 58, 61, 64, 67, 70, 73, 77, 81] [156, 157, 169, 170, 171, 172, 173, 123, 174, 103, 53, 54, 5, 56, 57, 59, 60, 62, 63, 65, 66, 68, 69, 71, 72, 74, 75, 76, 78, 79, 80] rfl (by decide +kernel) (by decide +kernel)
set_option maxRecDepth 20000 in
theorem gL_law_X1_paging : GoodIn wsL_law (wsV RL 47 RX1 yX1_paging wsX1_paging) := goodIn_app (goodIn_of _ (by decide +kernel)) ggL_law_X1_paging
set_option maxRecDepth 20000 in
theorem ggL_law_X0_goesOn : GoodIn wsL_law wsX0_goesOn := goodIn_rc _ [178, 20, 23, 27, 30, 33, 36, 39, 42, 45, 48, 51] [86, 18, 19, 2, 21, 22, 24, 25, 26, 28, 29, 31, 32, 34, 35, 37, 38, 40, 41, 43, 44, 46, 47, 49, 50] rfl (by decide +kernel) (by decide +kernel)
set_option maxRecDepth 20000 in
theorem gL_law_X0_goesOn : GoodIn wsL_law (wsV RL 48 RX0 yX0_goesOn wsX0_goesOn) := goodIn_app (goodIn_of _ (by decide +kernel)) ggL_law_X0_goesOn
set_option maxRecDepth 20000 in
theorem ggL_law_X1_goesOn : GoodIn wsL_law wsX1_goesOn := goodIn_rc _ [182, 55, 58, 61, 64, 67, 70, 73, 77, 81] [103, 53, 54, 5, 56, 57, 59, 60, 62, 63, 65, 66, 68, 69, 71, 72, 74, 75, 76, 78, 79, 80] rfl (by decide +kernel) (by decide +kernel)
set_option maxRecDepth 20000 in
theorem gL_law_X1_goesOn : GoodIn wsL_law (wsV RL 52 RX1 yX1_goesOn wsX1_goesOn) := goodIn_app (goodIn_of _ (by decide +kernel)) ggL_law_X1_goesOn
set_option maxRecDepth 20000 in
theorem ggL_law_X0_register : GoodIn wsL_law wsX0_register := goodIn_rc _ [186, 20, 23, 27, 30, 33, 36, 39, 42, 45, 48, 51, 189, 192, 195, 198] [86, 18, 19, 2, 21, 22, 24, 25, 26, 28, 29, 31, 32, 34, 35, 37, 38, 40, 41, 43, 44, 46, 47, 49, 50, 187, 188, 190, 191, 193, 194, 196, 197] rfl (by decide +kernel) (by decide +kernel)
set_option maxRecDepth 20000 in
theorem gL_law_X0_register : GoodIn wsL_law (wsV RL 53 RX0 yX0_register wsX0_register) := goodIn_app (goodIn_of _ (by decide +kernel)) ggL_law_X0_register
set_option maxRecDepth 20000 in
theorem ggL_law_X1_register : GoodIn wsL_law wsX1_register := goodIn_rc _ [202, 55, 58, 61, 64, 67, 70, 73, 77, 81] [103, 53, 54, 5, 56, 57, 59, 60, 62, 63, 65, 66, 68, 69, 71, 72, 74, 75, 76, 78, 79, 80] rfl (by decide +kernel) (by decide +kernel)
set_option maxRecDepth 20000 in
theorem gL_law_X1_register : GoodIn wsL_law (wsV RL 56 RX1 yX1_register wsX1_register) := goodIn_app (goodIn_of _ (by decide +kernel)) ggL_law_X1_register
theorem dL_law_0 : decode cL_law 0 = .ok (.new 7, 3) := by decide +kernel
theorem dL_law_3 : decode cL_law 3 = .ok (.dup, 1) := by decide +kernel
theorem dL_law_4 : decode cL_law 4 = .ok (.invokespecial 9, 3) := by decide +kernel
theorem dL_law_7 : decode cL_law 7 = .ok (.astore_n 1, 1) := by decide +kernel
theorem dL_law_8 : decode cL_law 8 = .ok (.new 10, 3) := by decide +kernel
theorem dL_law_11 : decode cL_law 11 = .ok (.dup, 1) := by decide +kernel
theorem dL_law_12 : decode cL_law 12 = .ok (.invokespecial 12, 3) := by decide +kernel
theorem dL_law_15 : decode cL_law 15 = .ok (.astore_n 2, 1) := by decide +kernel
theorem dL_law_16 : decode cL_law 16 = .ok (.iconst 0, 1) := by decide +kernel
theorem dL_law_17 : decode cL_law 17 = .ok (.istore_n 3, 1) := by decide +kernel
theorem dL_law_18 : decode cL_law 18 = .ok (.iload_n 3, 1) := by decide +kernel
theorem dL_law_19 : decode cL_law 19 = .ok (.aload_n 0, 1) := by decide +kernel
theorem dL_law_20 : decode cL_law 20 = .ok (.arraylength, 1) := by decide +kernel
theorem dL_law_21 : decode cL_law 21 = .ok (.bipush 6, 2) := by decide +kernel
theorem dL_law_23 : decode cL_law 23 = .ok (.isub, 1) := by decide +kernel
theorem dL_law_24 : decode cL_law 24 = .ok (.if_icmp .gt 454, 3) := by decide +kernel
theorem dL_law_27 : decode cL_law 27 = .ok (.aload_n 0, 1) := by decide +kernel
theorem dL_law_28 : decode cL_law 28 = .ok (.iload_n 3, 1) := by decide +kernel
theorem dL_law_29 : decode cL_law 29 = .ok (.iaload, 1) := by decide +kernel
theorem dL_law_30 : decode cL_law 30 = .ok (.bipush 15, 2) := by decide +kernel
theorem dL_law_32 : decode cL_law 32 = .ok (.iand, 1) := by decide +kernel
theorem dL_law_33 : decode cL_law 33 = .ok (.tableswitch 439 0 8 #[51, 74, 97, 130, 193, 216, 280, 383, 406], 51) := by decide +kernel
theorem dL_law_84 : decode cL_law 84 = .ok (.aload_n 1, 1) := by decide +kernel
theorem dL_law_85 : decode cL_law 85 = .ok (.aload_n 0, 1) := by decide +kernel
theorem dL_law_86 : decode cL_law 86 = .ok (.iload_n 3, 1) := by decide +kernel
theorem dL_law_87 : decode cL_law 87 = .ok (.iconst 1, 1) := by decide +kernel
theorem dL_law_88 : decode cL_law 88 = .ok (.iadd, 1) := by decide +kernel
theorem dL_law_89 : decode cL_law 89 = .ok (.iaload, 1) := by decide +kernel
theorem dL_law_90 : decode cL_law 90 = .ok (.invokevirtual 13, 3) := by decide +kernel
theorem dL_law_93 : decode cL_law 93 = .ok (.pop, 1) := by decide +kernel
theorem dL_law_94 : decode cL_law 94 = .ok (.aload_n 2, 1) := by decide +kernel
theorem dL_law_95 : decode cL_law 95 = .ok (.aload_n 0, 1) := by decide +kernel
theorem dL_law_96 : decode cL_law 96 = .ok (.iload_n 3, 1) := by decide +kernel
theorem dL_law_97 : decode cL_law 97 = .ok (.iconst 1, 1) := by decide +kernel
theorem dL_law_98 : decode cL_law 98 = .ok (.iadd, 1) := by decide +kernel
theorem dL_law_99 : decode cL_law 99 = .ok (.iaload, 1) := by decide +kernel
theorem dL_law_100 : decode cL_law 100 = .ok (.invokevirtual 17, 3) := by decide +kernel
theorem dL_law_103 : decode cL_law 103 = .ok (.pop, 1) := by decide +kernel
theorem dL_law_104 : decode cL_law 104 = .ok (.goto 368, 3) := by decide +kernel
theorem dL_law_107 : decode cL_law 107 = .ok (.aload_n 1, 1) := by decide +kernel
theorem dL_law_108 : decode cL_law 108 = .ok (.aload_n 0, 1) := by decide +kernel
theorem dL_law_109 : decode cL_law 109 = .ok (.iload_n 3, 1) := by decide +kernel
theorem dL_law_110 : decode cL_law 110 = .ok (.iconst 1, 1) := by decide +kernel
theorem dL_law_111 : decode cL_law 111 = .ok (.iadd, 1) := by decide +kernel
theorem dL_law_112 : decode cL_law 112 = .ok (.iaload, 1) := by decide +kernel
theorem dL_law_113 : decode cL_law 113 = .ok (.invokevirtual 18, 3) := by decide +kernel
theorem dL_law_116 : decode cL_law 116 = .ok (.pop, 1) := by decide +kernel
theorem dL_law_117 : decode cL_law 117 = .ok (.aload_n 2, 1) := by decide +kernel
theorem dL_law_118 : decode cL_law 118 = .ok (.aload_n 0, 1) := by decide +kernel
theorem dL_law_119 : decode cL_law 119 = .ok (.iload_n 3, 1) := by decide +kernel
theorem dL_law_120 : decode cL_law 120 = .ok (.iconst 1, 1) := by decide +kernel
theorem dL_law_121 : decode cL_law 121 = .ok (.iadd, 1) := by decide +kernel
theorem dL_law_122 : decode cL_law 122 = .ok (.iaload, 1) := by decide +kernel
theorem dL_law_123 : decode cL_law 123 = .ok (.invokevirtual 21, 3) := by decide +kernel
theorem dL_law_126 : decode cL_law 126 = .ok (.pop, 1) := by decide +kernel
theorem dL_law_127 : decode cL_law 127 = .ok (.goto 345, 3) := by decide +kernel
theorem dL_law_130 : decode cL_law 130 = .ok (.aload_n 1, 1) := by decide +kernel
theorem dL_law_131 : decode cL_law 131 = .ok (.aload_n 0, 1) := by decide +kernel
theorem dL_law_132 : decode cL_law 132 = .ok (.iload_n 3, 1) := by decide +kernel
theorem dL_law_133 : decode cL_law 133 = .ok (.iconst 1, 1) := by decide +kernel
theorem dL_law_134 : decode cL_law 134 = .ok (.iadd, 1) := by decide +kernel
theorem dL_law_135 : decode cL_law 135 = .ok (.iaload, 1) := by decide +kernel
theorem dL_law_136 : decode cL_law 136 = .ok (.aload_n 0, 1) := by decide +kernel
theorem dL_law_137 : decode cL_law 137 = .ok (.iload_n 3, 1) := by decide +kernel
theorem dL_law_138 : decode cL_law 138 = .ok (.iconst 2, 1) := by decide +kernel
theorem dL_law_139 : decode cL_law 139 = .ok (.iadd, 1) := by decide +kernel
theorem dL_law_140 : decode cL_law 140 = .ok (.iaload, 1) := by decide +kernel
theorem dL_law_141 : decode cL_law 141 = .ok (.invokevirtual 22, 3) := by decide +kernel
theorem dL_law_144 : decode cL_law 144 = .ok (.pop, 1) := by decide +kernel
theorem dL_law_145 : decode cL_law 145 = .ok (.aload_n 2, 1) := by decide +kernel
theorem dL_law_146 : decode cL_law 146 = .ok (.aload_n 0, 1) := by decide +kernel
theorem dL_law_147 : decode cL_law 147 = .ok (.iload_n 3, 1) := by decide +kernel
theorem dL_law_148 : decode cL_law 148 = .ok (.iconst 1, 1) := by decide +kernel
theorem dL_law_149 : decode cL_law 149 = .ok (.iadd, 1) := by decide +kernel
theorem dL_law_150 : decode cL_law 150 = .ok (.iaload, 1) := by decide +kernel
theorem dL_law_151 : decode cL_law 151 = .ok (.aload_n 0, 1) := by decide +kernel
theorem dL_law_152 : decode cL_law 152 = .ok (.iload_n 3, 1) := by decide +kernel
theorem dL_law_153 : decode cL_law 153 = .ok (.iconst 2, 1) := by decide +kernel
theorem dL_law_154 : decode cL_law 154 = .ok (.iadd, 1) := by decide +kernel
theorem dL_law_155 : decode cL_law 155 = .ok (.iaload, 1) := by decide +kernel
theorem dL_law_156 : decode cL_law 156 = .ok (.invokevirtual 26, 3) := by decide +kernel
theorem dL_law_159 : decode cL_law 159 = .ok (.pop, 1) := by decide +kernel
theorem dL_law_160 : decode cL_law 160 = .ok (.goto 312, 3) := by decide +kernel
theorem dL_law_163 : decode cL_law 163 = .ok (.aload_n 1, 1) := by decide +kernel
theorem dL_law_164 : decode cL_law 164 = .ok (.aload_n 0, 1) := by decide +kernel
theorem dL_law_165 : decode cL_law 165 = .ok (.iload_n 3, 1) := by decide +kernel
theorem dL_law_166 : decode cL_law 166 = .ok (.iconst 1, 1) := by decide +kernel
theorem dL_law_167 : decode cL_law 167 = .ok (.iadd, 1) := by decide +kernel
theorem dL_law_168 : decode cL_law 168 = .ok (.iaload, 1) := by decide +kernel
theorem dL_law_169 : decode cL_law 169 = .ok (.aload_n 0, 1) := by decide +kernel
theorem dL_law_170 : decode cL_law 170 = .ok (.iload_n 3, 1) := by decide +kernel
theorem dL_law_171 : decode cL_law 171 = .ok (.iconst 2, 1) := by decide +kernel
theorem dL_law_172 : decode cL_law 172 = .ok (.iadd, 1) := by decide +kernel
theorem dL_law_173 : decode cL_law 173 = .ok (.iaload, 1) := by decide +kernel
theorem dL_law_174 : decode cL_law 174 = .ok (.i2l, 1) := by decide +kernel
theorem dL_law_175 : decode cL_law 175 = .ok (.bipush 32, 2) := by decide +kernel
theorem dL_law_177 : decode cL_law 177 = .ok (.lshl, 1) := by decide +kernel
theorem dL_law_178 : decode cL_law 178 = .ok (.aload_n 0, 1) := by decide +kernel
theorem dL_law_179 : decode cL_law 179 = .ok (.iload_n 3, 1) := by decide +kernel
theorem dL_law_180 : decode cL_law 180 = .ok (.iconst 3, 1) := by decide +kernel
theorem dL_law_181 : decode cL_law 181 = .ok (.iadd, 1) := by decide +kernel
theorem dL_law_182 : decode cL_law 182 = .ok (.iaload, 1) := by decide +kernel
theorem dL_law_183 : decode cL_law 183 = .ok (.i2l, 1) := by decide +kernel
theorem dL_law_184 : decode cL_law 184 = .ok (.ldc2_w 27, 3) := by decide +kernel
theorem dL_law_187 : decode cL_law 187 = .ok (.land, 1) := by decide +kernel
theorem dL_law_188 : decode cL_law 188 = .ok (.lor, 1) := by decide +kernel
theorem dL_law_189 : decode cL_law 189 = .ok (.invokevirtual 29, 3) := by decide +kernel
theorem dL_law_192 : decode cL_law 192 = .ok (.pop, 1) := by decide +kernel
theorem dL_law_193 : decode cL_law 193 = .ok (.aload_n 2, 1) := by decide +kernel
theorem dL_law_194 : decode cL_law 194 = .ok (.aload_n 0, 1) := by decide +kernel
theorem dL_law_195 : decode cL_law 195 = .ok (.iload_n 3, 1) := by decide +kernel
theorem dL_law_196 : decode cL_law 196 = .ok (.iconst 1, 1) := by decide +kernel
theorem dL_law_197 : decode cL_law 197 = .ok (.iadd, 1) := by decide +kernel
theorem dL_law_198 : decode cL_law 198 = .ok (.iaload, 1) := by decide +kernel
theorem dL_law_199 : decode cL_law 199 = .ok (.aload_n 0, 1) := by decide +kernel
theorem dL_law_200 : decode cL_law 200 = .ok (.iload_n 3, 1) := by decide +kernel
theorem dL_law_201 : decode cL_law 201 = .ok (.iconst 2, 1) := by decide +kernel
theorem dL_law_202 : decode cL_law 202 = .ok (.iadd, 1) := by decide +kernel
theorem dL_law_203 : decode cL_law 203 = .ok (.iaload, 1) := by decide +kernel
theorem dL_law_204 : decode cL_law 204 = .ok (.i2l, 1) := by decide +kernel
theorem dL_law_205 : decode cL_law 205 = .ok (.bipush 32, 2) := by decide +kernel

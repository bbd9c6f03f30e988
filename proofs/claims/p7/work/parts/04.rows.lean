theorem dX1_kind_355 : decode cX1_kind 355 = .ok (.goto 4, 3) := by decide +kernel
theorem dX1_kind_358 : decode cX1_kind 358 = .ok (.iconst 0, 1) := by decide +kernel
theorem dX1_kind_359 : decode cX1_kind 359 = .ok (.ireturn, 1) := by decide +kernel
theorem dX1_kind_360 : decode cX1_kind 360 = .ok (.aload_n 0, 1) := by decide +kernel
theorem dX1_kind_361 : decode cX1_kind 361 = .ok (.iload_n 1, 1) := by decide +kernel
theorem dX1_kind_362 : decode cX1_kind 362 = .ok (.invokevirtual 30, 3) := by decide +kernel
theorem dX1_kind_365 : decode cX1_kind 365 = .ok (.ireturn, 1) := by decide +kernel
set_option maxRecDepth 20000 in
theorem ggX1_jumps_X1_bits : GoodIn wsX1_jumps wsX1_bits := goodIn_rc _ [5] [] rfl (by decide +kernel) (by decide +kernel)
set_option maxRecDepth 20000 in
theorem gX1_jumps_X1_bits : GoodIn wsX1_jumps (va_wsS RX1 7 yX1_bits wsX1_bits) := goodIn_app (goodIn_of _ (by decide +kernel)) ggX1_jumps_X1_bits
set_option maxRecDepth 20000 in
theorem ggX1_jumps_X1_goesByRegister : GoodIn wsX1_jumps wsX1_goesByRegister := goodIn_rc _ [8, 5] [2, 3, 4] rfl (by decide +kernel) (by decide +kernel)
set_option maxRecDepth 20000 in
theorem gX1_jumps_X1_goesByRegister : GoodIn wsX1_jumps (va_wsS RX1 33 yX1_goesByRegister wsX1_goesByRegister) := goodIn_app (goodIn_of _ (by decide +kernel)) ggX1_jumps_X1_goesByRegister
theorem dX1_jumps_0 : decode cX1_jumps 0 = .ok (.iload_n 1, 1) := by decide +kernel
theorem dX1_jumps_1 : decode cX1_jumps 1 = .ok (.bipush 26, 2) := by decide +kernel
theorem dX1_jumps_3 : decode cX1_jumps 3 = .ok (.bipush 31, 2) := by decide +kernel
theorem dX1_jumps_5 : decode cX1_jumps 5 = .ok (.invokestatic 7, 3) := by decide +kernel
theorem dX1_jumps_8 : decode cX1_jumps 8 = .ok (.istore_n 2, 1) := by decide +kernel
theorem dX1_jumps_9 : decode cX1_jumps 9 = .ok (.iload_n 2, 1) := by decide +kernel
theorem dX1_jumps_10 : decode cX1_jumps 10 = .ok (.iconst 5, 1) := by decide +kernel
theorem dX1_jumps_11 : decode cX1_jumps 11 = .ok (.if_icmp .ne 6, 3) := by decide +kernel
theorem dX1_jumps_14 : decode cX1_jumps 14 = .ok (.bipush 12, 2) := by decide +kernel
theorem dX1_jumps_16 : decode cX1_jumps 16 = .ok (.ireturn, 1) := by decide +kernel
theorem dX1_jumps_17 : decode cX1_jumps 17 = .ok (.iload_n 2, 1) := by decide +kernel
theorem dX1_jumps_18 : decode cX1_jumps 18 = .ok (.bipush 37, 2) := by decide +kernel
theorem dX1_jumps_20 : decode cX1_jumps 20 = .ok (.if_icmp .ne 6, 3) := by decide +kernel
theorem dX1_jumps_23 : decode cX1_jumps 23 = .ok (.bipush 13, 2) := by decide +kernel
theorem dX1_jumps_25 : decode cX1_jumps 25 = .ok (.ireturn, 1) := by decide +kernel
theorem dX1_jumps_26 : decode cX1_jumps 26 = .ok (.iload_n 1, 1) := by decide +kernel
theorem dX1_jumps_27 : decode cX1_jumps 27 = .ok (.bipush 24, 2) := by decide +kernel
theorem dX1_jumps_29 : decode cX1_jumps 29 = .ok (.bipush 31, 2) := by decide +kernel
theorem dX1_jumps_31 : decode cX1_jumps 31 = .ok (.invokestatic 7, 3) := by decide +kernel
theorem dX1_jumps_34 : decode cX1_jumps 34 = .ok (.bipush 84, 2) := by decide +kernel
theorem dX1_jumps_36 : decode cX1_jumps 36 = .ok (.if_icmp .ne 30, 3) := by decide +kernel
theorem dX1_jumps_39 : decode cX1_jumps 39 = .ok (.iload_n 1, 1) := by decide +kernel
theorem dX1_jumps_40 : decode cX1_jumps 40 = .ok (.iconst 4, 1) := by decide +kernel
theorem dX1_jumps_41 : decode cX1_jumps 41 = .ok (.iconst 4, 1) := by decide +kernel
theorem dX1_jumps_42 : decode cX1_jumps 42 = .ok (.invokestatic 7, 3) := by decide +kernel
theorem dX1_jumps_45 : decode cX1_jumps 45 = .ok (.ifCond .ne 19, 3) := by decide +kernel
theorem dX1_jumps_48 : decode cX1_jumps 48 = .ok (.iload_n 1, 1) := by decide +kernel
theorem dX1_jumps_49 : decode cX1_jumps 49 = .ok (.iconst 0, 1) := by decide +kernel
theorem dX1_jumps_50 : decode cX1_jumps 50 = .ok (.iconst 3, 1) := by decide +kernel
theorem dX1_jumps_51 : decode cX1_jumps 51 = .ok (.invokestatic 7, 3) := by decide +kernel
theorem dX1_jumps_54 : decode cX1_jumps 54 = .ok (.bipush 14, 2) := by decide +kernel
theorem dX1_jumps_56 : decode cX1_jumps 56 = .ok (.if_icmp .ge 8, 3) := by decide +kernel
theorem dX1_jumps_59 : decode cX1_jumps 59 = .ok (.bipush 14, 2) := by decide +kernel
theorem dX1_jumps_61 : decode cX1_jumps 61 = .ok (.goto 4, 3) := by decide +kernel
theorem dX1_jumps_64 : decode cX1_jumps 64 = .ok (.iconst 0, 1) := by decide +kernel
theorem dX1_jumps_65 : decode cX1_jumps 65 = .ok (.ireturn, 1) := by decide +kernel
theorem dX1_jumps_66 : decode cX1_jumps 66 = .ok (.iload_n 1, 1) := by decide +kernel
theorem dX1_jumps_67 : decode cX1_jumps 67 = .ok (.bipush 25, 2) := by decide +kernel
theorem dX1_jumps_69 : decode cX1_jumps 69 = .ok (.bipush 30, 2) := by decide +kernel
theorem dX1_jumps_71 : decode cX1_jumps 71 = .ok (.invokestatic 7, 3) := by decide +kernel
theorem dX1_jumps_74 : decode cX1_jumps 74 = .ok (.istore_n 3, 1) := by decide +kernel
theorem dX1_jumps_75 : decode cX1_jumps 75 = .ok (.iload_n 3, 1) := by decide +kernel
theorem dX1_jumps_76 : decode cX1_jumps 76 = .ok (.bipush 26, 2) := by decide +kernel
theorem dX1_jumps_78 : decode cX1_jumps 78 = .ok (.if_icmp .ne 6, 3) := by decide +kernel
theorem dX1_jumps_81 : decode cX1_jumps 81 = .ok (.bipush 15, 2) := by decide +kernel
theorem dX1_jumps_83 : decode cX1_jumps 83 = .ok (.ireturn, 1) := by decide +kernel
theorem dX1_jumps_84 : decode cX1_jumps 84 = .ok (.iload_n 3, 1) := by decide +kernel
theorem dX1_jumps_85 : decode cX1_jumps 85 = .ok (.bipush 27, 2) := by decide +kernel
theorem dX1_jumps_87 : decode cX1_jumps 87 = .ok (.if_icmp .ne 6, 3) := by decide +kernel
theorem dX1_jumps_90 : decode cX1_jumps 90 = .ok (.bipush 16, 2) := by decide +kernel
theorem dX1_jumps_92 : decode cX1_jumps 92 = .ok (.ireturn, 1) := by decide +kernel
theorem dX1_jumps_93 : decode cX1_jumps 93 = .ok (.iload_n 1, 1) := by decide +kernel
theorem dX1_jumps_94 : decode cX1_jumps 94 = .ok (.bipush 24, 2) := by decide +kernel
theorem dX1_jumps_96 : decode cX1_jumps 96 = .ok (.bipush 31, 2) := by decide +kernel
theorem dX1_jumps_98 : decode cX1_jumps 98 = .ok (.invokestatic 7, 3) := by decide +kernel
theorem dX1_jumps_101 : decode cX1_jumps 101 = .ok (.sipush 214, 3) := by decide +kernel
theorem dX1_jumps_104 : decode cX1_jumps 104 = .ok (.if_icmp .ne 8, 3) := by decide +kernel
theorem dX1_jumps_107 : decode cX1_jumps 107 = .ok (.iload_n 1, 1) := by decide +kernel
theorem dX1_jumps_108 : decode cX1_jumps 108 = .ok (.invokestatic 33, 3) := by decide +kernel
theorem dX1_jumps_111 : decode cX1_jumps 111 = .ok (.ireturn, 1) := by decide +kernel
theorem dX1_jumps_112 : decode cX1_jumps 112 = .ok (.iload_n 1, 1) := by decide +kernel
theorem dX1_jumps_113 : decode cX1_jumps 113 = .ok (.bipush 21, 2) := by decide +kernel
theorem dX1_jumps_115 : decode cX1_jumps 115 = .ok (.bipush 31, 2) := by decide +kernel
theorem dX1_jumps_117 : decode cX1_jumps 117 = .ok (.invokestatic 7, 3) := by decide +kernel
theorem dX1_jumps_120 : decode cX1_jumps 120 = .ok (.sipush 1696, 3) := by decide +kernel
theorem dX1_jumps_123 : decode cX1_jumps 123 = .ok (.if_icmp .ne 16, 3) := by decide +kernel
theorem dX1_jumps_126 : decode cX1_jumps 126 = .ok (.iload_n 1, 1) := by decide +kernel
theorem dX1_jumps_127 : decode cX1_jumps 127 = .ok (.iconst 0, 1) := by decide +kernel
theorem dX1_jumps_128 : decode cX1_jumps 128 = .ok (.iconst 4, 1) := by decide +kernel
theorem dX1_jumps_129 : decode cX1_jumps 129 = .ok (.invokestatic 7, 3) := by decide +kernel
theorem dX1_jumps_132 : decode cX1_jumps 132 = .ok (.iconst 1, 1) := by decide +kernel
theorem dX1_jumps_133 : decode cX1_jumps 133 = .ok (.if_icmp .ne 6, 3) := by decide +kernel
theorem dX1_jumps_136 : decode cX1_jumps 136 = .ok (.bipush 20, 2) := by decide +kernel
theorem dX1_jumps_138 : decode cX1_jumps 138 = .ok (.ireturn, 1) := by decide +kernel
theorem dX1_jumps_139 : decode cX1_jumps 139 = .ok (.iload_n 1, 1) := by decide +kernel
theorem dX1_jumps_140 : decode cX1_jumps 140 = .ok (.ldc 36, 2) := by decide +kernel
theorem dX1_jumps_142 : decode cX1_jumps 142 = .ok (.if_icmp .ne 8, 3) := by decide +kernel
theorem dX1_jumps_145 : decode cX1_jumps 145 = .ok (.bipush 21, 2) := by decide +kernel
theorem dX1_jumps_147 : decode cX1_jumps 147 = .ok (.goto 4, 3) := by decide +kernel
theorem dX1_jumps_150 : decode cX1_jumps 150 = .ok (.iconst 0, 1) := by decide +kernel
theorem dX1_jumps_151 : decode cX1_jumps 151 = .ok (.ireturn, 1) := by decide +kernel
set_option maxRecDepth 20000 in
theorem ggX1_goesByRegister_X1_bits : GoodIn wsX1_goesByRegister wsX1_bits := goodIn_rc _ [4] [] rfl (by decide +kernel) (by decide +kernel)
set_option maxRecDepth 20000 in
theorem gX1_goesByRegister_X1_bits : GoodIn wsX1_goesByRegister (va_wsS RX1 7 yX1_bits wsX1_bits) := goodIn_app (goodIn_of _ (by decide +kernel)) ggX1_goesByRegister_X1_bits
theorem dX1_goesByRegister_0 : decode cX1_goesByRegister 0 = .ok (.iload_n 0, 1) := by decide +kernel
theorem dX1_goesByRegister_1 : decode cX1_goesByRegister 1 = .ok (.iconst 0, 1) := by decide +kernel
theorem dX1_goesByRegister_2 : decode cX1_goesByRegister 2 = .ok (.iconst 4, 1) := by decide +kernel
theorem dX1_goesByRegister_3 : decode cX1_goesByRegister 3 = .ok (.invokestatic 7, 3) := by decide +kernel
theorem dX1_goesByRegister_6 : decode cX1_goesByRegister 6 = .ok (.ifCond .gt 27, 3) := by decide +kernel
theorem dX1_goesByRegister_9 : decode cX1_goesByRegister 9 = .ok (.iload_n 0, 1) := by decide +kernel
theorem dX1_goesByRegister_10 : decode cX1_goesByRegister 10 = .ok (.bipush 10, 2) := by decide +kernel
theorem dX1_goesByRegister_12 : decode cX1_goesByRegister 12 = .ok (.bipush 15, 2) := by decide +kernel
theorem dX1_goesByRegister_14 : decode cX1_goesByRegister 14 = .ok (.invokestatic 7, 3) := by decide +kernel
theorem dX1_goesByRegister_17 : decode cX1_goesByRegister 17 = .ok (.ifCond .gt 16, 3) := by decide +kernel
theorem dX1_goesByRegister_20 : decode cX1_goesByRegister 20 = .ok (.iload_n 0, 1) := by decide +kernel
theorem dX1_goesByRegister_21 : decode cX1_goesByRegister 21 = .ok (.bipush 16, 2) := by decide +kernel
theorem dX1_goesByRegister_23 : decode cX1_goesByRegister 23 = .ok (.bipush 20, 2) := by decide +kernel
theorem dX1_goesByRegister_25 : decode cX1_goesByRegister 25 = .ok (.invokestatic 7, 3) := by decide +kernel
theorem dX1_goesByRegister_28 : decode cX1_goesByRegister 28 = .ok (.bipush 31, 2) := by decide +kernel
theorem dX1_goesByRegister_30 : decode cX1_goesByRegister 30 = .ok (.if_icmp .eq 5, 3) := by decide +kernel
theorem dX1_goesByRegister_33 : decode cX1_goesByRegister 33 = .ok (.iconst 0, 1) := by decide +kernel
theorem dX1_goesByRegister_34 : decode cX1_goesByRegister 34 = .ok (.ireturn, 1) := by decide +kernel
theorem dX1_goesByRegister_35 : decode cX1_goesByRegister 35 = .ok (.iload_n 0, 1) := by decide +kernel
theorem dX1_goesByRegister_36 : decode cX1_goesByRegister 36 = .ok (.bipush 21, 2) := by decide +kernel
theorem dX1_goesByRegister_38 : decode cX1_goesByRegister 38 = .ok (.bipush 23, 2) := by decide +kernel
theorem dX1_goesByRegister_40 : decode cX1_goesByRegister 40 = .ok (.invokestatic 7, 3) := by decide +kernel
theorem dX1_goesByRegister_43 : decode cX1_goesByRegister 43 = .ok (.istore_n 1, 1) := by decide +kernel
theorem dX1_goesByRegister_44 : decode cX1_goesByRegister 44 = .ok (.iload_n 1, 1) := by decide +kernel
theorem dX1_goesByRegister_45 : decode cX1_goesByRegister 45 = .ok (.iconst 3, 1) := by decide +kernel
theorem dX1_goesByRegister_46 : decode cX1_goesByRegister 46 = .ok (.if_icmp .ge 10, 3) := by decide +kernel
theorem dX1_goesByRegister_49 : decode cX1_goesByRegister 49 = .ok (.bipush 17, 2) := by decide +kernel
theorem dX1_goesByRegister_51 : decode cX1_goesByRegister 51 = .ok (.iload_n 1, 1) := by decide +kernel
theorem dX1_goesByRegister_52 : decode cX1_goesByRegister 52 = .ok (.iadd, 1) := by decide +kernel
theorem dX1_goesByRegister_53 : decode cX1_goesByRegister 53 = .ok (.goto 4, 3) := by decide +kernel
theorem dX1_goesByRegister_56 : decode cX1_goesByRegister 56 = .ok (.iconst 0, 1) := by decide +kernel
theorem dX1_goesByRegister_57 : decode cX1_goesByRegister 57 = .ok (.ireturn, 1) := by decide +kernel
set_option maxRecDepth 20000 in
theorem ggX1_isMoved_X1_bits : GoodIn wsX1_isMoved wsX1_bits := goodIn_rc _ [4] [] rfl (by decide +kernel) (by decide +kernel)
set_option maxRecDepth 20000 in
theorem gX1_isMoved_X1_bits : GoodIn wsX1_isMoved (va_wsS RX1 7 yX1_bits wsX1_bits) := goodIn_app (goodIn_of _ (by decide +kernel)) ggX1_isMoved_X1_bits
theorem dX1_isMoved_0 : decode cX1_isMoved 0 = .ok (.iload_n 0, 1) := by decide +kernel
theorem dX1_isMoved_1 : decode cX1_isMoved 1 = .ok (.ifCond .lt 14, 3) := by decide +kernel
theorem dX1_isMoved_4 : decode cX1_isMoved 4 = .ok (.iload_n 0, 1) := by decide +kernel
theorem dX1_isMoved_5 : decode cX1_isMoved 5 = .ok (.bipush 15, 2) := by decide +kernel
theorem dX1_isMoved_7 : decode cX1_isMoved 7 = .ok (.bipush 15, 2) := by decide +kernel
theorem dX1_isMoved_9 : decode cX1_isMoved 9 = .ok (.invokestatic 7, 3) := by decide +kernel
theorem dX1_isMoved_12 : decode cX1_isMoved 12 = .ok (.ifCond .ne 7, 3) := by decide +kernel
theorem dX1_isMoved_15 : decode cX1_isMoved 15 = .ok (.iconst 1, 1) := by decide +kernel
theorem dX1_isMoved_16 : decode cX1_isMoved 16 = .ok (.goto 4, 3) := by decide +kernel
theorem dX1_isMoved_19 : decode cX1_isMoved 19 = .ok (.iconst 0, 1) := by decide +kernel
theorem dX1_isMoved_20 : decode cX1_isMoved 20 = .ok (.ireturn, 1) := by decide +kernel
set_option maxRecDepth 20000 in
theorem ggX1_inTwo_X1_bits : GoodIn wsX1_inTwo wsX1_bits := goodIn_rc _ [4] [] rfl (by decide +kernel) (by decide +kernel)
set_option maxRecDepth 20000 in
theorem gX1_inTwo_X1_bits : GoodIn wsX1_inTwo (va_wsS RX1 7 yX1_bits wsX1_bits) := goodIn_app (goodIn_of _ (by decide +kernel)) ggX1_inTwo_X1_bits
theorem dX1_inTwo_0 : decode cX1_inTwo 0 = .ok (.iload_n 0, 1) := by decide +kernel
theorem dX1_inTwo_1 : decode cX1_inTwo 1 = .ok (.bipush 21, 2) := by decide +kernel
theorem dX1_inTwo_3 : decode cX1_inTwo 3 = .ok (.bipush 23, 2) := by decide +kernel
theorem dX1_inTwo_5 : decode cX1_inTwo 5 = .ok (.invokestatic 7, 3) := by decide +kernel
theorem dX1_inTwo_8 : decode cX1_inTwo 8 = .ok (.istore_n 1, 1) := by decide +kernel
theorem dX1_inTwo_9 : decode cX1_inTwo 9 = .ok (.iload_n 0, 1) := by decide +kernel
theorem dX1_inTwo_10 : decode cX1_inTwo 10 = .ok (.bipush 10, 2) := by decide +kernel
theorem dX1_inTwo_12 : decode cX1_inTwo 12 = .ok (.bipush 15, 2) := by decide +kernel
theorem dX1_inTwo_14 : decode cX1_inTwo 14 = .ok (.invokestatic 7, 3) := by decide +kernel
theorem dX1_inTwo_17 : decode cX1_inTwo 17 = .ok (.istore_n 2, 1) := by decide +kernel
theorem dX1_inTwo_18 : decode cX1_inTwo 18 = .ok (.iload_n 1, 1) := by decide +kernel
theorem dX1_inTwo_19 : decode cX1_inTwo 19 = .ok (.bipush 6, 2) := by decide +kernel
theorem dX1_inTwo_21 : decode cX1_inTwo 21 = .ok (.if_icmp .ne 32, 3) := by decide +kernel
theorem dX1_inTwo_24 : decode cX1_inTwo 24 = .ok (.iload_n 2, 1) := by decide +kernel
theorem dX1_inTwo_25 : decode cX1_inTwo 25 = .ok (.iconst 2, 1) := by decide +kernel
theorem dX1_inTwo_26 : decode cX1_inTwo 26 = .ok (.if_icmp .eq 20, 3) := by decide +kernel
theorem dX1_inTwo_29 : decode cX1_inTwo 29 = .ok (.iload_n 2, 1) := by decide +kernel
theorem dX1_inTwo_30 : decode cX1_inTwo 30 = .ok (.iconst 3, 1) := by decide +kernel
theorem dX1_inTwo_31 : decode cX1_inTwo 31 = .ok (.if_icmp .eq 15, 3) := by decide +kernel
theorem dX1_inTwo_34 : decode cX1_inTwo 34 = .ok (.iload_n 2, 1) := by decide +kernel
theorem dX1_inTwo_35 : decode cX1_inTwo 35 = .ok (.bipush 7, 2) := by decide +kernel
theorem dX1_inTwo_37 : decode cX1_inTwo 37 = .ok (.if_icmp .le 14, 3) := by decide +kernel
theorem dX1_inTwo_40 : decode cX1_inTwo 40 = .ok (.iload_n 2, 1) := by decide +kernel
theorem dX1_inTwo_41 : decode cX1_inTwo 41 = .ok (.bipush 11, 2) := by decide +kernel
theorem dX1_inTwo_43 : decode cX1_inTwo 43 = .ok (.if_icmp .ge 8, 3) := by decide +kernel
theorem dX1_inTwo_46 : decode cX1_inTwo 46 = .ok (.bipush 7, 2) := by decide +kernel
theorem dX1_inTwo_48 : decode cX1_inTwo 48 = .ok (.goto 4, 3) := by decide +kernel
theorem dX1_inTwo_51 : decode cX1_inTwo 51 = .ok (.iconst 0, 1) := by decide +kernel
theorem dX1_inTwo_52 : decode cX1_inTwo 52 = .ok (.ireturn, 1) := by decide +kernel
theorem dX1_inTwo_53 : decode cX1_inTwo 53 = .ok (.iload_n 1, 1) := by decide +kernel
theorem dX1_inTwo_54 : decode cX1_inTwo 54 = .ok (.iconst 4, 1) := by decide +kernel
theorem dX1_inTwo_55 : decode cX1_inTwo 55 = .ok (.if_icmp .ne 31, 3) := by decide +kernel
theorem dX1_inTwo_58 : decode cX1_inTwo 58 = .ok (.iload_n 0, 1) := by decide +kernel
theorem dX1_inTwo_59 : decode cX1_inTwo 59 = .ok (.bipush 11, 2) := by decide +kernel
theorem dX1_inTwo_61 : decode cX1_inTwo 61 = .ok (.bipush 11, 2) := by decide +kernel
theorem dX1_inTwo_63 : decode cX1_inTwo 63 = .ok (.invokestatic 7, 3) := by decide +kernel
theorem dX1_inTwo_66 : decode cX1_inTwo 66 = .ok (.ifCond .ne 20, 3) := by decide +kernel
theorem dX1_inTwo_69 : decode cX1_inTwo 69 = .ok (.iload_n 0, 1) := by decide +kernel
theorem dX1_inTwo_70 : decode cX1_inTwo 70 = .ok (.bipush 12, 2) := by decide +kernel
theorem dX1_inTwo_72 : decode cX1_inTwo 72 = .ok (.bipush 15, 2) := by decide +kernel
theorem dX1_inTwo_74 : decode cX1_inTwo 74 = .ok (.invokestatic 7, 3) := by decide +kernel
theorem dX1_inTwo_77 : decode cX1_inTwo 77 = .ok (.bipush 14, 2) := by decide +kernel
theorem dX1_inTwo_79 : decode cX1_inTwo 79 = .ok (.if_icmp .ge 7, 3) := by decide +kernel
theorem dX1_inTwo_82 : decode cX1_inTwo 82 = .ok (.iconst 1, 1) := by decide +kernel
theorem dX1_inTwo_83 : decode cX1_inTwo 83 = .ok (.goto 4, 3) := by decide +kernel
theorem dX1_inTwo_86 : decode cX1_inTwo 86 = .ok (.iconst 0, 1) := by decide +kernel
theorem dX1_inTwo_87 : decode cX1_inTwo 87 = .ok (.istore_n 3, 1) := by decide +kernel
theorem dX1_inTwo_88 : decode cX1_inTwo 88 = .ok (.iload_n 3, 1) := by decide +kernel
theorem dX1_inTwo_89 : decode cX1_inTwo 89 = .ok (.ifCond .eq 8, 3) := by decide +kernel
theorem dX1_inTwo_92 : decode cX1_inTwo 92 = .ok (.bipush 8, 2) := by decide +kernel
theorem dX1_inTwo_94 : decode cX1_inTwo 94 = .ok (.goto 4, 3) := by decide +kernel
theorem dX1_inTwo_97 : decode cX1_inTwo 97 = .ok (.iconst 0, 1) := by decide +kernel
theorem dX1_inTwo_98 : decode cX1_inTwo 98 = .ok (.ireturn, 1) := by decide +kernel
set_option maxRecDepth 20000 in
theorem ggX1_isByRegister_X1_bits : GoodIn wsX1_isByRegister wsX1_bits := goodIn_rc _ [4] [] rfl (by decide +kernel) (by decide +kernel)
set_option maxRecDepth 20000 in
theorem gX1_isByRegister_X1_bits : GoodIn wsX1_isByRegister (va_wsS RX1 7 yX1_bits wsX1_bits) := goodIn_app (goodIn_of _ (by decide +kernel)) ggX1_isByRegister_X1_bits
theorem dX1_isByRegister_0 : decode cX1_isByRegister 0 = .ok (.iload_n 0, 1) := by decide +kernel
theorem dX1_isByRegister_1 : decode cX1_isByRegister 1 = .ok (.bipush 21, 2) := by decide +kernel
theorem dX1_isByRegister_3 : decode cX1_isByRegister 3 = .ok (.bipush 21, 2) := by decide +kernel
theorem dX1_isByRegister_5 : decode cX1_isByRegister 5 = .ok (.invokestatic 7, 3) := by decide +kernel
theorem dX1_isByRegister_8 : decode cX1_isByRegister 8 = .ok (.iconst 1, 1) := by decide +kernel
theorem dX1_isByRegister_9 : decode cX1_isByRegister 9 = .ok (.if_icmp .ne 31, 3) := by decide +kernel
theorem dX1_isByRegister_12 : decode cX1_isByRegister 12 = .ok (.iload_n 0, 1) := by decide +kernel
theorem dX1_isByRegister_13 : decode cX1_isByRegister 13 = .ok (.bipush 13, 2) := by decide +kernel
theorem dX1_isByRegister_15 : decode cX1_isByRegister 15 = .ok (.bipush 15, 2) := by decide +kernel
theorem dX1_isByRegister_17 : decode cX1_isByRegister 17 = .ok (.invokestatic 7, 3) := by decide +kernel
theorem dX1_isByRegister_20 : decode cX1_isByRegister 20 = .ok (.iconst 3, 1) := by decide +kernel
theorem dX1_isByRegister_21 : decode cX1_isByRegister 21 = .ok (.if_icmp .ne 19, 3) := by decide +kernel
theorem dX1_isByRegister_24 : decode cX1_isByRegister 24 = .ok (.iload_n 0, 1) := by decide +kernel
theorem dX1_isByRegister_25 : decode cX1_isByRegister 25 = .ok (.bipush 10, 2) := by decide +kernel
theorem dX1_isByRegister_27 : decode cX1_isByRegister 27 = .ok (.bipush 11, 2) := by decide +kernel
theorem dX1_isByRegister_29 : decode cX1_isByRegister 29 = .ok (.invokestatic 7, 3) := by decide +kernel
theorem dX1_isByRegister_32 : decode cX1_isByRegister 32 = .ok (.iconst 2, 1) := by decide +kernel
theorem dX1_isByRegister_33 : decode cX1_isByRegister 33 = .ok (.if_icmp .ne 7, 3) := by decide +kernel
theorem dX1_isByRegister_36 : decode cX1_isByRegister 36 = .ok (.iconst 1, 1) := by decide +kernel
theorem dX1_isByRegister_37 : decode cX1_isByRegister 37 = .ok (.goto 4, 3) := by decide +kernel
theorem dX1_isByRegister_40 : decode cX1_isByRegister 40 = .ok (.iconst 0, 1) := by decide +kernel
theorem dX1_isByRegister_41 : decode cX1_isByRegister 41 = .ok (.ireturn, 1) := by decide +kernel
set_option maxRecDepth 20000 in
theorem ggX1_isSize_X1_bits : GoodIn wsX1_isSize wsX1_bits := goodIn_rc _ [4] [] rfl (by decide +kernel) (by decide +kernel)
set_option maxRecDepth 20000 in
theorem gX1_isSize_X1_bits : GoodIn wsX1_isSize (va_wsS RX1 7 yX1_bits wsX1_bits) := goodIn_app (goodIn_of _ (by decide +kernel)) ggX1_isSize_X1_bits
theorem dX1_isSize_0 : decode cX1_isSize 0 = .ok (.iload_n 0, 1) := by decide +kernel
theorem dX1_isSize_1 : decode cX1_isSize 1 = .ok (.bipush 30, 2) := by decide +kernel
theorem dX1_isSize_3 : decode cX1_isSize 3 = .ok (.bipush 31, 2) := by decide +kernel
theorem dX1_isSize_5 : decode cX1_isSize 5 = .ok (.invokestatic 7, 3) := by decide +kernel
theorem dX1_isSize_8 : decode cX1_isSize 8 = .ok (.istore_n 1, 1) := by decide +kernel
theorem dX1_isSize_9 : decode cX1_isSize 9 = .ok (.iload_n 0, 1) := by decide +kernel
theorem dX1_isSize_10 : decode cX1_isSize 10 = .ok (.bipush 22, 2) := by decide +kernel
theorem dX1_isSize_12 : decode cX1_isSize 12 = .ok (.bipush 23, 2) := by decide +kernel
theorem dX1_isSize_14 : decode cX1_isSize 14 = .ok (.invokestatic 7, 3) := by decide +kernel
theorem dX1_isSize_17 : decode cX1_isSize 17 = .ok (.istore_n 2, 1) := by decide +kernel
theorem dX1_isSize_18 : decode cX1_isSize 18 = .ok (.iload_n 1, 1) := by decide +kernel
theorem dX1_isSize_19 : decode cX1_isSize 19 = .ok (.iconst 1, 1) := by decide +kernel
theorem dX1_isSize_20 : decode cX1_isSize 20 = .ok (.if_icmp .eq 22, 3) := by decide +kernel
theorem dX1_isSize_23 : decode cX1_isSize 23 = .ok (.iload_n 2, 1) := by decide +kernel
theorem dX1_isSize_24 : decode cX1_isSize 24 = .ok (.iconst 2, 1) := by decide +kernel
theorem dX1_isSize_25 : decode cX1_isSize 25 = .ok (.if_icmp .lt 13, 3) := by decide +kernel
theorem dX1_isSize_28 : decode cX1_isSize 28 = .ok (.iload_n 2, 1) := by decide +kernel
theorem dX1_isSize_29 : decode cX1_isSize 29 = .ok (.iconst 2, 1) := by decide +kernel
theorem dX1_isSize_30 : decode cX1_isSize 30 = .ok (.if_icmp .ne 12, 3) := by decide +kernel
theorem dX1_isSize_33 : decode cX1_isSize 33 = .ok (.iload_n 1, 1) := by decide +kernel
theorem dX1_isSize_34 : decode cX1_isSize 34 = .ok (.iconst 2, 1) := by decide +kernel
theorem dX1_isSize_35 : decode cX1_isSize 35 = .ok (.if_icmp .ne 7, 3) := by decide +kernel
theorem dX1_isSize_38 : decode cX1_isSize 38 = .ok (.iconst 1, 1) := by decide +kernel
theorem dX1_isSize_39 : decode cX1_isSize 39 = .ok (.goto 4, 3) := by decide +kernel
theorem dX1_isSize_42 : decode cX1_isSize 42 = .ok (.iconst 0, 1) := by decide +kernel
theorem dX1_isSize_43 : decode cX1_isSize 43 = .ok (.ireturn, 1) := by decide +kernel
set_option maxRecDepth 20000 in
theorem ggX1_isPair_X1_bits : GoodIn wsX1_isPair wsX1_bits := goodIn_rc _ [4] [] rfl (by decide +kernel) (by decide +kernel)
set_option maxRecDepth 20000 in
theorem gX1_isPair_X1_bits : GoodIn wsX1_isPair (va_wsS RX1 7 yX1_bits wsX1_bits) := goodIn_app (goodIn_of _ (by decide +kernel)) ggX1_isPair_X1_bits
theorem dX1_isPair_0 : decode cX1_isPair 0 = .ok (.iload_n 0, 1) := by decide +kernel
theorem dX1_isPair_1 : decode cX1_isPair 1 = .ok (.bipush 23, 2) := by decide +kernel
theorem dX1_isPair_3 : decode cX1_isPair 3 = .ok (.bipush 24, 2) := by decide +kernel
theorem dX1_isPair_5 : decode cX1_isPair 5 = .ok (.invokestatic 7, 3) := by decide +kernel
theorem dX1_isPair_8 : decode cX1_isPair 8 = .ok (.istore_n 1, 1) := by decide +kernel
theorem dX1_isPair_9 : decode cX1_isPair 9 = .ok (.iload_n 0, 1) := by decide +kernel
theorem dX1_isPair_10 : decode cX1_isPair 10 = .ok (.iconst 5, 1) := by decide +kernel
theorem dX1_isPair_11 : decode cX1_isPair 11 = .ok (.bipush 9, 2) := by decide +kernel
theorem dX1_isPair_13 : decode cX1_isPair 13 = .ok (.invokestatic 7, 3) := by decide +kernel
theorem dX1_isPair_16 : decode cX1_isPair 16 = .ok (.istore_n 2, 1) := by decide +kernel
theorem dX1_isPair_17 : decode cX1_isPair 17 = .ok (.iload_n 1, 1) := by decide +kernel
theorem dX1_isPair_18 : decode cX1_isPair 18 = .ok (.iconst 2, 1) := by decide +kernel
theorem dX1_isPair_19 : decode cX1_isPair 19 = .ok (.if_icmp .eq 13, 3) := by decide +kernel
theorem dX1_isPair_22 : decode cX1_isPair 22 = .ok (.iload_n 2, 1) := by decide +kernel
theorem dX1_isPair_23 : decode cX1_isPair 23 = .ok (.bipush 31, 2) := by decide +kernel
theorem dX1_isPair_25 : decode cX1_isPair 25 = .ok (.if_icmp .eq 7, 3) := by decide +kernel
theorem dX1_isPair_28 : decode cX1_isPair 28 = .ok (.iconst 1, 1) := by decide +kernel
theorem dX1_isPair_29 : decode cX1_isPair 29 = .ok (.goto 4, 3) := by decide +kernel
theorem dX1_isPair_32 : decode cX1_isPair 32 = .ok (.iconst 0, 1) := by decide +kernel
theorem dX1_isPair_33 : decode cX1_isPair 33 = .ok (.istore_n 3, 1) := by decide +kernel
theorem dX1_isPair_34 : decode cX1_isPair 34 = .ok (.iload_n 1, 1) := by decide +kernel
theorem dX1_isPair_35 : decode cX1_isPair 35 = .ok (.ifCond .eq 29, 3) := by decide +kernel
theorem dX1_isPair_38 : decode cX1_isPair 38 = .ok (.iload_n 3, 1) := by decide +kernel
theorem dX1_isPair_39 : decode cX1_isPair 39 = .ok (.ifCond .eq 27, 3) := by decide +kernel
theorem dX1_isPair_42 : decode cX1_isPair 42 = .ok (.iload_n 2, 1) := by decide +kernel
theorem dX1_isPair_43 : decode cX1_isPair 43 = .ok (.iload_n 0, 1) := by decide +kernel
theorem dX1_isPair_44 : decode cX1_isPair 44 = .ok (.iconst 0, 1) := by decide +kernel
theorem dX1_isPair_45 : decode cX1_isPair 45 = .ok (.iconst 4, 1) := by decide +kernel
theorem dX1_isPair_46 : decode cX1_isPair 46 = .ok (.invokestatic 7, 3) := by decide +kernel
theorem dX1_isPair_49 : decode cX1_isPair 49 = .ok (.if_icmp .eq 15, 3) := by decide +kernel
theorem dX1_isPair_52 : decode cX1_isPair 52 = .ok (.iload_n 2, 1) := by decide +kernel
theorem dX1_isPair_53 : decode cX1_isPair 53 = .ok (.iload_n 0, 1) := by decide +kernel
theorem dX1_isPair_54 : decode cX1_isPair 54 = .ok (.bipush 10, 2) := by decide +kernel
theorem dX1_isPair_56 : decode cX1_isPair 56 = .ok (.bipush 14, 2) := by decide +kernel
theorem dX1_isPair_58 : decode cX1_isPair 58 = .ok (.invokestatic 7, 3) := by decide +kernel
theorem dX1_isPair_61 : decode cX1_isPair 61 = .ok (.if_icmp .ne 5, 3) := by decide +kernel
theorem dX1_isPair_64 : decode cX1_isPair 64 = .ok (.iconst 0, 1) := by decide +kernel
theorem dX1_isPair_65 : decode cX1_isPair 65 = .ok (.ireturn, 1) := by decide +kernel
theorem dX1_isPair_66 : decode cX1_isPair 66 = .ok (.iload_n 0, 1) := by decide +kernel
theorem dX1_isPair_67 : decode cX1_isPair 67 = .ok (.bipush 22, 2) := by decide +kernel
theorem dX1_isPair_69 : decode cX1_isPair 69 = .ok (.bipush 22, 2) := by decide +kernel
theorem dX1_isPair_71 : decode cX1_isPair 71 = .ok (.invokestatic 7, 3) := by decide +kernel
theorem dX1_isPair_74 : decode cX1_isPair 74 = .ok (.ifCond .eq 20, 3) := by decide +kernel
theorem dX1_isPair_77 : decode cX1_isPair 77 = .ok (.iload_n 0, 1) := by decide +kernel
theorem dX1_isPair_78 : decode cX1_isPair 78 = .ok (.iconst 0, 1) := by decide +kernel
theorem dX1_isPair_79 : decode cX1_isPair 79 = .ok (.iconst 4, 1) := by decide +kernel
theorem dX1_isPair_80 : decode cX1_isPair 80 = .ok (.invokestatic 7, 3) := by decide +kernel
theorem dX1_isPair_83 : decode cX1_isPair 83 = .ok (.iload_n 0, 1) := by decide +kernel
theorem dX1_isPair_84 : decode cX1_isPair 84 = .ok (.bipush 10, 2) := by decide +kernel
theorem dX1_isPair_86 : decode cX1_isPair 86 = .ok (.bipush 14, 2) := by decide +kernel
theorem dX1_isPair_88 : decode cX1_isPair 88 = .ok (.invokestatic 7, 3) := by decide +kernel
theorem dX1_isPair_91 : decode cX1_isPair 91 = .ok (.if_icmp .eq 7, 3) := by decide +kernel
theorem dX1_isPair_94 : decode cX1_isPair 94 = .ok (.iconst 1, 1) := by decide +kernel
theorem dX1_isPair_95 : decode cX1_isPair 95 = .ok (.goto 4, 3) := by decide +kernel
theorem dX1_isPair_98 : decode cX1_isPair 98 = .ok (.iconst 0, 1) := by decide +kernel
theorem dX1_isPair_99 : decode cX1_isPair 99 = .ok (.ireturn, 1) := by decide +kernel
theorem dX1_reach_0 : decode cX1_reach 0 = .ok (.iload_n 0, 1) := by decide +kernel
theorem dX1_reach_1 : decode cX1_reach 1 = .ok (.bipush 12, 2) := by decide +kernel
theorem dX1_reach_3 : decode cX1_reach 3 = .ok (.if_icmp .eq 9, 3) := by decide +kernel
theorem dX1_reach_6 : decode cX1_reach 6 = .ok (.iload_n 0, 1) := by decide +kernel
theorem dX1_reach_7 : decode cX1_reach 7 = .ok (.bipush 13, 2) := by decide +kernel
theorem dX1_reach_9 : decode cX1_reach 9 = .ok (.if_icmp .ne 8, 3) := by decide +kernel
theorem dX1_reach_12 : decode cX1_reach 12 = .ok (.ldc 37, 2) := by decide +kernel
theorem dX1_reach_14 : decode cX1_reach 14 = .ok (.goto 32, 3) := by decide +kernel
theorem dX1_reach_17 : decode cX1_reach 17 = .ok (.iload_n 0, 1) := by decide +kernel
theorem dX1_reach_18 : decode cX1_reach 18 = .ok (.bipush 14, 2) := by decide +kernel
theorem dX1_reach_20 : decode cX1_reach 20 = .ok (.if_icmp .eq 9, 3) := by decide +kernel
theorem dX1_reach_23 : decode cX1_reach 23 = .ok (.iload_n 0, 1) := by decide +kernel
theorem dX1_reach_24 : decode cX1_reach 24 = .ok (.bipush 15, 2) := by decide +kernel
theorem dX1_reach_26 : decode cX1_reach 26 = .ok (.if_icmp .ne 8, 3) := by decide +kernel
theorem dX1_reach_29 : decode cX1_reach 29 = .ok (.ldc 38, 2) := by decide +kernel
theorem dX1_reach_31 : decode cX1_reach 31 = .ok (.goto 15, 3) := by decide +kernel
theorem dX1_reach_34 : decode cX1_reach 34 = .ok (.iload_n 0, 1) := by decide +kernel
theorem dX1_reach_35 : decode cX1_reach 35 = .ok (.bipush 16, 2) := by decide +kernel
theorem dX1_reach_37 : decode cX1_reach 37 = .ok (.if_icmp .ne 8, 3) := by decide +kernel
theorem dX1_reach_40 : decode cX1_reach 40 = .ok (.ldc 39, 2) := by decide +kernel
theorem dX1_reach_42 : decode cX1_reach 42 = .ok (.goto 4, 3) := by decide +kernel
theorem dX1_reach_45 : decode cX1_reach 45 = .ok (.iconst 0, 1) := by decide +kernel
theorem dX1_reach_46 : decode cX1_reach 46 = .ok (.ireturn, 1) := by decide +kernel
set_option maxRecDepth 20000 in
theorem ggX1_by_X1_kind : GoodIn wsX1_by wsX1_kind := goodIn_rc _ [5, 8, 11, 14, 17, 20, 23, 27, 31] [6, 7, 4, 9, 10, 12, 13, 15, 16, 18, 19, 21, 22, 24, 25, 26, 28, 29, 30] rfl (by decide +kernel) (by decide +kernel)
set_option maxRecDepth 20000 in
theorem gX1_by_X1_kind : GoodIn wsX1_by (wsV RX1 40 RX1 yX1_kind wsX1_kind) := goodIn_app (goodIn_of _ (by decide +kernel)) ggX1_by_X1_kind
set_option maxRecDepth 20000 in
theorem ggX1_by_X1_signed : GoodIn wsX1_by wsX1_signed := goodIn_rc _ [34] [] rfl (by decide +kernel) (by decide +kernel)
set_option maxRecDepth 20000 in
theorem gX1_by_X1_signed : GoodIn wsX1_by (va_wsS RX1 43 yX1_signed wsX1_signed) := goodIn_app (goodIn_of _ (by decide +kernel)) ggX1_by_X1_signed
theorem dX1_by_0 : decode cX1_by 0 = .ok (.aload_n 0, 1) := by decide +kernel
theorem dX1_by_1 : decode cX1_by 1 = .ok (.iload_n 1, 1) := by decide +kernel
theorem dX1_by_2 : decode cX1_by 2 = .ok (.invokevirtual 40, 3) := by decide +kernel
theorem dX1_by_5 : decode cX1_by 5 = .ok (.istore_n 2, 1) := by decide +kernel
theorem dX1_by_6 : decode cX1_by 6 = .ok (.iload_n 2, 1) := by decide +kernel
theorem dX1_by_7 : decode cX1_by 7 = .ok (.bipush 12, 2) := by decide +kernel
theorem dX1_by_9 : decode cX1_by 9 = .ok (.if_icmp .lt 9, 3) := by decide +kernel
theorem dX1_by_12 : decode cX1_by 12 = .ok (.iload_n 2, 1) := by decide +kernel
theorem dX1_by_13 : decode cX1_by 13 = .ok (.bipush 16, 2) := by decide +kernel
theorem dX1_by_15 : decode cX1_by 15 = .ok (.if_icmp .le 5, 3) := by decide +kernel
theorem dX1_by_18 : decode cX1_by 18 = .ok (.iconst 1, 1) := by decide +kernel
theorem dX1_by_19 : decode cX1_by 19 = .ok (.ireturn, 1) := by decide +kernel
theorem dX1_by_20 : decode cX1_by 20 = .ok (.iconst 4, 1) := by decide +kernel
theorem dX1_by_21 : decode cX1_by 21 = .ok (.iload_n 2, 1) := by decide +kernel
theorem dX1_by_22 : decode cX1_by 22 = .ok (.bipush 14, 2) := by decide +kernel
theorem dX1_by_24 : decode cX1_by 24 = .ok (.if_icmp .ge 13, 3) := by decide +kernel
theorem dX1_by_27 : decode cX1_by 27 = .ok (.iload_n 1, 1) := by decide +kernel
theorem dX1_by_28 : decode cX1_by 28 = .ok (.iconst 0, 1) := by decide +kernel
theorem dX1_by_29 : decode cX1_by 29 = .ok (.bipush 25, 2) := by decide +kernel
theorem dX1_by_31 : decode cX1_by 31 = .ok (.invokestatic 43, 3) := by decide +kernel
theorem dX1_by_34 : decode cX1_by 34 = .ok (.goto 26, 3) := by decide +kernel
theorem dX1_by_37 : decode cX1_by 37 = .ok (.iload_n 2, 1) := by decide +kernel
theorem dX1_by_38 : decode cX1_by 38 = .ok (.bipush 16, 2) := by decide +kernel
theorem dX1_by_40 : decode cX1_by 40 = .ok (.if_icmp .ge 13, 3) := by decide +kernel
theorem dX1_by_43 : decode cX1_by 43 = .ok (.iload_n 1, 1) := by decide +kernel
theorem dX1_by_44 : decode cX1_by 44 = .ok (.iconst 5, 1) := by decide +kernel
theorem dX1_by_45 : decode cX1_by 45 = .ok (.bipush 23, 2) := by decide +kernel
theorem dX1_by_47 : decode cX1_by 47 = .ok (.invokestatic 43, 3) := by decide +kernel
theorem dX1_by_50 : decode cX1_by 50 = .ok (.goto 10, 3) := by decide +kernel
theorem dX1_by_53 : decode cX1_by 53 = .ok (.iload_n 1, 1) := by decide +kernel
theorem dX1_by_54 : decode cX1_by 54 = .ok (.iconst 5, 1) := by decide +kernel
theorem dX1_by_55 : decode cX1_by 55 = .ok (.bipush 18, 2) := by decide +kernel
theorem dX1_by_57 : decode cX1_by 57 = .ok (.invokestatic 43, 3) := by decide +kernel
theorem dX1_by_60 : decode cX1_by 60 = .ok (.imul, 1) := by decide +kernel
theorem dX1_by_61 : decode cX1_by 61 = .ok (.ireturn, 1) := by decide +kernel
set_option maxRecDepth 20000 in
theorem ggX1_reaches_X1_kind : GoodIn wsX1_reaches wsX1_kind := goodIn_rc _ [6, 9, 12, 15, 18, 21, 24, 28, 32] [7, 8, 5, 10, 11, 13, 14, 16, 17, 19, 20, 22, 23, 25, 26, 27, 29, 30, 31] rfl (by decide +kernel) (by decide +kernel)
set_option maxRecDepth 20000 in
theorem gX1_reaches_X1_kind : GoodIn wsX1_reaches (wsV RX1 40 RX1 yX1_kind wsX1_kind) := goodIn_app (goodIn_of _ (by decide +kernel)) ggX1_reaches_X1_kind
set_option maxRecDepth 20000 in
theorem ggX1_reaches_X1_reach : GoodIn wsX1_reaches wsX1_reach := goodIn_rc _ [35] [36, 37, 38] rfl (by decide +kernel) (by decide +kernel)
set_option maxRecDepth 20000 in
theorem gX1_reaches_X1_reach : GoodIn wsX1_reaches (va_wsS RX1 46 yX1_reach wsX1_reach) := goodIn_app (goodIn_of _ (by decide +kernel)) ggX1_reaches_X1_reach
theorem dX1_reaches_0 : decode cX1_reaches 0 = .ok (.aload_n 0, 1) := by decide +kernel
theorem dX1_reaches_1 : decode cX1_reaches 1 = .ok (.iload_n 1, 1) := by decide +kernel
theorem dX1_reaches_2 : decode cX1_reaches 2 = .ok (.invokevirtual 40, 3) := by decide +kernel
theorem dX1_reaches_5 : decode cX1_reaches 5 = .ok (.invokestatic 46, 3) := by decide +kernel
theorem dX1_reaches_8 : decode cX1_reaches 8 = .ok (.istore 4, 2) := by decide +kernel
theorem dX1_reaches_10 : decode cX1_reaches 10 = .ok (.iload 4, 2) := by decide +kernel
theorem dX1_reaches_12 : decode cX1_reaches 12 = .ok (.ifCond .le 34, 3) := by decide +kernel
theorem dX1_reaches_15 : decode cX1_reaches 15 = .ok (.lload_n 2, 1) := by decide +kernel
theorem dX1_reaches_16 : decode cX1_reaches 16 = .ok (.ldc2_w 49, 3) := by decide +kernel
theorem dX1_reaches_19 : decode cX1_reaches 19 = .ok (.lrem, 1) := by decide +kernel
theorem dX1_reaches_20 : decode cX1_reaches 20 = .ok (.lconst 0, 1) := by decide +kernel
theorem dX1_reaches_21 : decode cX1_reaches 21 = .ok (.lcmp, 1) := by decide +kernel
theorem dX1_reaches_22 : decode cX1_reaches 22 = .ok (.ifCond .ne 24, 3) := by decide +kernel
theorem dX1_reaches_25 : decode cX1_reaches 25 = .ok (.lload_n 2, 1) := by decide +kernel
theorem dX1_reaches_26 : decode cX1_reaches 26 = .ok (.iload 4, 2) := by decide +kernel
theorem dX1_reaches_28 : decode cX1_reaches 28 = .ok (.ineg, 1) := by decide +kernel
theorem dX1_reaches_29 : decode cX1_reaches 29 = .ok (.i2l, 1) := by decide +kernel
theorem dX1_reaches_30 : decode cX1_reaches 30 = .ok (.lcmp, 1) := by decide +kernel
theorem dX1_reaches_31 : decode cX1_reaches 31 = .ok (.ifCond .lt 15, 3) := by decide +kernel
theorem dX1_reaches_34 : decode cX1_reaches 34 = .ok (.lload_n 2, 1) := by decide +kernel
theorem dX1_reaches_35 : decode cX1_reaches 35 = .ok (.iload 4, 2) := by decide +kernel
theorem dX1_reaches_37 : decode cX1_reaches 37 = .ok (.i2l, 1) := by decide +kernel
theorem dX1_reaches_38 : decode cX1_reaches 38 = .ok (.lcmp, 1) := by decide +kernel
theorem dX1_reaches_39 : decode cX1_reaches 39 = .ok (.ifCond .ge 7, 3) := by decide +kernel
theorem dX1_reaches_42 : decode cX1_reaches 42 = .ok (.iconst 1, 1) := by decide +kernel
theorem dX1_reaches_43 : decode cX1_reaches 43 = .ok (.goto 4, 3) := by decide +kernel
theorem dX1_reaches_46 : decode cX1_reaches 46 = .ok (.iconst 0, 1) := by decide +kernel
theorem dX1_reaches_47 : decode cX1_reaches 47 = .ok (.ireturn, 1) := by decide +kernel
set_option maxRecDepth 20000 in
theorem ggX1_going_X1_reaches : GoodIn wsX1_going wsX1_reaches := goodIn_rc _ [5, 10, 13, 16, 19, 22, 25, 28, 32, 36, 39] [6, 7, 8, 9, 4, 11, 12, 14, 15, 17, 18, 20, 21, 23, 24, 26, 27, 29, 30, 31, 33, 34, 35, 37, 38, 40, 41, 42] rfl (by decide +kernel) (by decide +kernel)
set_option maxRecDepth 20000 in
theorem gX1_going_X1_reaches : GoodIn wsX1_going (wsV RX1 51 RX1 yX1_reaches wsX1_reaches) := goodIn_app (goodIn_of _ (by decide +kernel)) ggX1_going_X1_reaches
set_option maxRecDepth 20000 in
theorem ggX1_going_X1_kind : GoodIn wsX1_going wsX1_kind := goodIn_rc _ [10, 13, 16, 19, 22, 25, 28, 32, 36] [11, 12, 4, 14, 15, 17, 18, 20, 21, 23, 24, 26, 27, 29, 30, 31, 33, 34, 35] rfl (by decide +kernel) (by decide +kernel)
set_option maxRecDepth 20000 in
theorem gX1_going_X1_kind : GoodIn wsX1_going (wsV RX1 40 RX1 yX1_kind wsX1_kind) := goodIn_app (goodIn_of _ (by decide +kernel)) ggX1_going_X1_kind
set_option maxRecDepth 20000 in
theorem ggX1_going_X1_reach : GoodIn wsX1_going wsX1_reach := goodIn_rc _ [39] [40, 41, 42] rfl (by decide +kernel) (by decide +kernel)
set_option maxRecDepth 20000 in
theorem gX1_going_X1_reach : GoodIn wsX1_going (va_wsS RX1 46 yX1_reach wsX1_reach) := goodIn_app (goodIn_of _ (by decide +kernel)) ggX1_going_X1_reach
theorem dX1_going_0 : decode cX1_going 0 = .ok (.aload_n 0, 1) := by decide +kernel
theorem dX1_going_1 : decode cX1_going 1 = .ok (.iload_n 1, 1) := by decide +kernel
theorem dX1_going_2 : decode cX1_going 2 = .ok (.iload_n 2, 1) := by decide +kernel
theorem dX1_going_3 : decode cX1_going 3 = .ok (.i2l, 1) := by decide +kernel
theorem dX1_going_4 : decode cX1_going 4 = .ok (.invokevirtual 51, 3) := by decide +kernel
theorem dX1_going_7 : decode cX1_going 7 = .ok (.ifCond .ne 5, 3) := by decide +kernel
theorem dX1_going_10 : decode cX1_going 10 = .ok (.iload_n 1, 1) := by decide +kernel
theorem dX1_going_11 : decode cX1_going 11 = .ok (.ireturn, 1) := by decide +kernel
theorem dX1_going_12 : decode cX1_going 12 = .ok (.aload_n 0, 1) := by decide +kernel
theorem dX1_going_13 : decode cX1_going 13 = .ok (.iload_n 1, 1) := by decide +kernel
theorem dX1_going_14 : decode cX1_going 14 = .ok (.invokevirtual 40, 3) := by decide +kernel
theorem dX1_going_17 : decode cX1_going 17 = .ok (.istore_n 3, 1) := by decide +kernel
theorem dX1_going_18 : decode cX1_going 18 = .ok (.iload_n 3, 1) := by decide +kernel
theorem dX1_going_19 : decode cX1_going 19 = .ok (.bipush 14, 2) := by decide +kernel
theorem dX1_going_21 : decode cX1_going 21 = .ok (.if_icmp .ge 7, 3) := by decide +kernel
theorem dX1_going_24 : decode cX1_going 24 = .ok (.iconst 0, 1) := by decide +kernel
theorem dX1_going_25 : decode cX1_going 25 = .ok (.goto 4, 3) := by decide +kernel
theorem dX1_going_28 : decode cX1_going 28 = .ok (.iconst 5, 1) := by decide +kernel
theorem dX1_going_29 : decode cX1_going 29 = .ok (.istore 4, 2) := by decide +kernel
theorem dX1_going_31 : decode cX1_going 31 = .ok (.iload_n 3, 1) := by decide +kernel
theorem dX1_going_32 : decode cX1_going 32 = .ok (.invokestatic 46, 3) := by decide +kernel
theorem dX1_going_35 : decode cX1_going 35 = .ok (.iconst 2, 1) := by decide +kernel
theorem dX1_going_36 : decode cX1_going 36 = .ok (.idiv, 1) := by decide +kernel
theorem dX1_going_37 : decode cX1_going 37 = .ok (.iconst 1, 1) := by decide +kernel
theorem dX1_going_38 : decode cX1_going 38 = .ok (.isub, 1) := by decide +kernel
theorem dX1_going_39 : decode cX1_going 39 = .ok (.istore 5, 2) := by decide +kernel
theorem dX1_going_41 : decode cX1_going 41 = .ok (.iload_n 1, 1) := by decide +kernel
theorem dX1_going_42 : decode cX1_going 42 = .ok (.iload_n 1, 1) := by decide +kernel
theorem dX1_going_43 : decode cX1_going 43 = .ok (.iload 5, 2) := by decide +kernel
theorem dX1_going_45 : decode cX1_going 45 = .ok (.iload 4, 2) := by decide +kernel
theorem dX1_going_47 : decode cX1_going 47 = .ok (.ishl, 1) := by decide +kernel
theorem dX1_going_48 : decode cX1_going 48 = .ok (.iand, 1) := by decide +kernel
theorem dX1_going_49 : decode cX1_going 49 = .ok (.isub, 1) := by decide +kernel
theorem dX1_going_50 : decode cX1_going 50 = .ok (.iload_n 2, 1) := by decide +kernel
theorem dX1_going_51 : decode cX1_going 51 = .ok (.iconst 4, 1) := by decide +kernel
theorem dX1_going_52 : decode cX1_going 52 = .ok (.idiv, 1) := by decide +kernel
theorem dX1_going_53 : decode cX1_going 53 = .ok (.iload 5, 2) := by decide +kernel
theorem dX1_going_55 : decode cX1_going 55 = .ok (.iand, 1) := by decide +kernel
theorem dX1_going_56 : decode cX1_going 56 = .ok (.iload 4, 2) := by decide +kernel
theorem dX1_going_58 : decode cX1_going 58 = .ok (.ishl, 1) := by decide +kernel
theorem dX1_going_59 : decode cX1_going 59 = .ok (.iadd, 1) := by decide +kernel
theorem dX1_going_60 : decode cX1_going 60 = .ok (.ireturn, 1) := by decide +kernel
set_option maxRecDepth 20000 in
theorem ggX1_turned_X1_kind : GoodIn wsX1_turned wsX1_kind := goodIn_rc _ [6, 9, 12, 15, 18, 21, 24, 28, 32] [7, 8, 5, 10, 11, 13, 14, 16, 17, 19, 20, 22, 23, 25, 26, 27, 29, 30, 31] rfl (by decide +kernel) (by decide +kernel)
set_option maxRecDepth 20000 in
theorem gX1_turned_X1_kind : GoodIn wsX1_turned (wsV RX1 40 RX1 yX1_kind wsX1_kind) := goodIn_app (goodIn_of _ (by decide +kernel)) ggX1_turned_X1_kind

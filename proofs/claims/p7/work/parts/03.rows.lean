theorem dX0_isMovedWithin_10 : decode cX0_isMovedWithin 10 = .ok (.bipush 6, 2) := by decide +kernel
theorem dX0_isMovedWithin_12 : decode cX0_isMovedWithin 12 = .ok (.invokestatic 46, 3) := by decide +kernel
theorem dX0_isMovedWithin_15 : decode cX0_isMovedWithin 15 = .ok (.bipush 32, 2) := by decide +kernel
theorem dX0_isMovedWithin_17 : decode cX0_isMovedWithin 17 = .ok (.if_icmp .ge 7, 3) := by decide +kernel
theorem dX0_isMovedWithin_20 : decode cX0_isMovedWithin 20 = .ok (.iconst 1, 1) := by decide +kernel
theorem dX0_isMovedWithin_21 : decode cX0_isMovedWithin 21 = .ok (.goto 4, 3) := by decide +kernel
theorem dX0_isMovedWithin_24 : decode cX0_isMovedWithin 24 = .ok (.iconst 0, 1) := by decide +kernel
theorem dX0_isMovedWithin_25 : decode cX0_isMovedWithin 25 = .ok (.ireturn, 1) := by decide +kernel
theorem dX0_isTwo_0 : decode cX0_isTwo 0 = .ok (.iload_n 0, 1) := by decide +kernel
theorem dX0_isTwo_1 : decode cX0_isTwo 1 = .ok (.iconst 2, 1) := by decide +kernel
theorem dX0_isTwo_2 : decode cX0_isTwo 2 = .ok (.if_icmp .eq 20, 3) := by decide +kernel
theorem dX0_isTwo_5 : decode cX0_isTwo 5 = .ok (.iload_n 0, 1) := by decide +kernel
theorem dX0_isTwo_6 : decode cX0_isTwo 6 = .ok (.iconst 3, 1) := by decide +kernel
theorem dX0_isTwo_7 : decode cX0_isTwo 7 = .ok (.if_icmp .eq 15, 3) := by decide +kernel
theorem dX0_isTwo_10 : decode cX0_isTwo 10 = .ok (.iload_n 0, 1) := by decide +kernel
theorem dX0_isTwo_11 : decode cX0_isTwo 11 = .ok (.bipush 8, 2) := by decide +kernel
theorem dX0_isTwo_13 : decode cX0_isTwo 13 = .ok (.if_icmp .lt 13, 3) := by decide +kernel
theorem dX0_isTwo_16 : decode cX0_isTwo 16 = .ok (.iload_n 0, 1) := by decide +kernel
theorem dX0_isTwo_17 : decode cX0_isTwo 17 = .ok (.bipush 10, 2) := by decide +kernel
theorem dX0_isTwo_19 : decode cX0_isTwo 19 = .ok (.if_icmp .gt 7, 3) := by decide +kernel
theorem dX0_isTwo_22 : decode cX0_isTwo 22 = .ok (.iconst 1, 1) := by decide +kernel
theorem dX0_isTwo_23 : decode cX0_isTwo 23 = .ok (.goto 4, 3) := by decide +kernel
theorem dX0_isTwo_26 : decode cX0_isTwo 26 = .ok (.iconst 0, 1) := by decide +kernel
theorem dX0_isTwo_27 : decode cX0_isTwo 27 = .ok (.ireturn, 1) := by decide +kernel
theorem dX0_isCondition_0 : decode cX0_isCondition 0 = .ok (.iload_n 0, 1) := by decide +kernel
theorem dX0_isCondition_1 : decode cX0_isCondition 1 = .ok (.bipush 13, 2) := by decide +kernel
theorem dX0_isCondition_3 : decode cX0_isCondition 3 = .ok (.if_icmp .gt 7, 3) := by decide +kernel
theorem dX0_isCondition_6 : decode cX0_isCondition 6 = .ok (.iconst 1, 1) := by decide +kernel
theorem dX0_isCondition_7 : decode cX0_isCondition 7 = .ok (.goto 4, 3) := by decide +kernel
theorem dX0_isCondition_10 : decode cX0_isCondition 10 = .ok (.iconst 0, 1) := by decide +kernel
theorem dX0_isCondition_11 : decode cX0_isCondition 11 = .ok (.ireturn, 1) := by decide +kernel
theorem dX0_isLoad_0 : decode cX0_isLoad 0 = .ok (.iload_n 1, 1) := by decide +kernel
theorem dX0_isLoad_1 : decode cX0_isLoad 1 = .ok (.iconst 2, 1) := by decide +kernel
theorem dX0_isLoad_2 : decode cX0_isLoad 2 = .ok (.if_icmp .ne 14, 3) := by decide +kernel
theorem dX0_isLoad_5 : decode cX0_isLoad 5 = .ok (.iload_n 0, 1) := by decide +kernel
theorem dX0_isLoad_6 : decode cX0_isLoad 6 = .ok (.iconst 2, 1) := by decide +kernel
theorem dX0_isLoad_7 : decode cX0_isLoad 7 = .ok (.if_icmp .ne 7, 3) := by decide +kernel
theorem dX0_isLoad_10 : decode cX0_isLoad 10 = .ok (.iconst 1, 1) := by decide +kernel
theorem dX0_isLoad_11 : decode cX0_isLoad 11 = .ok (.goto 4, 3) := by decide +kernel
theorem dX0_isLoad_14 : decode cX0_isLoad 14 = .ok (.iconst 0, 1) := by decide +kernel
theorem dX0_isLoad_15 : decode cX0_isLoad 15 = .ok (.ireturn, 1) := by decide +kernel
theorem dX0_isLoad_16 : decode cX0_isLoad 16 = .ok (.iload_n 1, 1) := by decide +kernel
theorem dX0_isLoad_17 : decode cX0_isLoad 17 = .ok (.iconst 3, 1) := by decide +kernel
theorem dX0_isLoad_18 : decode cX0_isLoad 18 = .ok (.if_icmp .eq 12, 3) := by decide +kernel
theorem dX0_isLoad_21 : decode cX0_isLoad 21 = .ok (.iload_n 0, 1) := by decide +kernel
theorem dX0_isLoad_22 : decode cX0_isLoad 22 = .ok (.iconst 1, 1) := by decide +kernel
theorem dX0_isLoad_23 : decode cX0_isLoad 23 = .ok (.if_icmp .eq 7, 3) := by decide +kernel
theorem dX0_isLoad_26 : decode cX0_isLoad 26 = .ok (.iconst 1, 1) := by decide +kernel
theorem dX0_isLoad_27 : decode cX0_isLoad 27 = .ok (.goto 4, 3) := by decide +kernel
theorem dX0_isLoad_30 : decode cX0_isLoad 30 = .ok (.iconst 0, 1) := by decide +kernel
theorem dX0_isLoad_31 : decode cX0_isLoad 31 = .ok (.ireturn, 1) := by decide +kernel
set_option maxRecDepth 20000 in
theorem ggX0_isPair_X0_bits : GoodIn wsX0_isPair wsX0_bits := goodIn_rc _ [4, 7] [5, 6, 3] rfl (by decide +kernel) (by decide +kernel)
set_option maxRecDepth 20000 in
theorem gX0_isPair_X0_bits : GoodIn wsX0_isPair (va_wsS RX0 46 yX0_bits wsX0_bits) := goodIn_app (goodIn_of _ (by decide +kernel)) ggX0_isPair_X0_bits
theorem dX0_isPair_0 : decode cX0_isPair 0 = .ok (.iload_n 0, 1) := by decide +kernel
theorem dX0_isPair_1 : decode cX0_isPair 1 = .ok (.bipush 23, 2) := by decide +kernel
theorem dX0_isPair_3 : decode cX0_isPair 3 = .ok (.iconst 2, 1) := by decide +kernel
theorem dX0_isPair_4 : decode cX0_isPair 4 = .ok (.invokestatic 46, 3) := by decide +kernel
theorem dX0_isPair_7 : decode cX0_isPair 7 = .ok (.istore_n 1, 1) := by decide +kernel
theorem dX0_isPair_8 : decode cX0_isPair 8 = .ok (.iload_n 0, 1) := by decide +kernel
theorem dX0_isPair_9 : decode cX0_isPair 9 = .ok (.iconst 0, 1) := by decide +kernel
theorem dX0_isPair_10 : decode cX0_isPair 10 = .ok (.iconst 5, 1) := by decide +kernel
theorem dX0_isPair_11 : decode cX0_isPair 11 = .ok (.invokestatic 46, 3) := by decide +kernel
theorem dX0_isPair_14 : decode cX0_isPair 14 = .ok (.istore_n 2, 1) := by decide +kernel
theorem dX0_isPair_15 : decode cX0_isPair 15 = .ok (.iload_n 0, 1) := by decide +kernel
theorem dX0_isPair_16 : decode cX0_isPair 16 = .ok (.iconst 5, 1) := by decide +kernel
theorem dX0_isPair_17 : decode cX0_isPair 17 = .ok (.iconst 5, 1) := by decide +kernel
theorem dX0_isPair_18 : decode cX0_isPair 18 = .ok (.invokestatic 46, 3) := by decide +kernel
theorem dX0_isPair_21 : decode cX0_isPair 21 = .ok (.istore_n 3, 1) := by decide +kernel
theorem dX0_isPair_22 : decode cX0_isPair 22 = .ok (.iload_n 0, 1) := by decide +kernel
theorem dX0_isPair_23 : decode cX0_isPair 23 = .ok (.bipush 10, 2) := by decide +kernel
theorem dX0_isPair_25 : decode cX0_isPair 25 = .ok (.iconst 5, 1) := by decide +kernel
theorem dX0_isPair_26 : decode cX0_isPair 26 = .ok (.invokestatic 46, 3) := by decide +kernel
theorem dX0_isPair_29 : decode cX0_isPair 29 = .ok (.istore 4, 2) := by decide +kernel
theorem dX0_isPair_31 : decode cX0_isPair 31 = .ok (.iload_n 0, 1) := by decide +kernel
theorem dX0_isPair_32 : decode cX0_isPair 32 = .ok (.bipush 22, 2) := by decide +kernel
theorem dX0_isPair_34 : decode cX0_isPair 34 = .ok (.iconst 1, 1) := by decide +kernel
theorem dX0_isPair_35 : decode cX0_isPair 35 = .ok (.invokestatic 46, 3) := by decide +kernel
theorem dX0_isPair_38 : decode cX0_isPair 38 = .ok (.iconst 1, 1) := by decide +kernel
theorem dX0_isPair_39 : decode cX0_isPair 39 = .ok (.if_icmp .ne 7, 3) := by decide +kernel
theorem dX0_isPair_42 : decode cX0_isPair 42 = .ok (.iconst 1, 1) := by decide +kernel
theorem dX0_isPair_43 : decode cX0_isPair 43 = .ok (.goto 4, 3) := by decide +kernel
theorem dX0_isPair_46 : decode cX0_isPair 46 = .ok (.iconst 0, 1) := by decide +kernel
theorem dX0_isPair_47 : decode cX0_isPair 47 = .ok (.istore 5, 2) := by decide +kernel
theorem dX0_isPair_49 : decode cX0_isPair 49 = .ok (.iload_n 1, 1) := by decide +kernel
theorem dX0_isPair_50 : decode cX0_isPair 50 = .ok (.ifCond .eq 14, 3) := by decide +kernel
theorem dX0_isPair_53 : decode cX0_isPair 53 = .ok (.iload 5, 2) := by decide +kernel
theorem dX0_isPair_55 : decode cX0_isPair 55 = .ok (.ifCond .eq 11, 3) := by decide +kernel
theorem dX0_isPair_58 : decode cX0_isPair 58 = .ok (.iload_n 2, 1) := by decide +kernel
theorem dX0_isPair_59 : decode cX0_isPair 59 = .ok (.iload 4, 2) := by decide +kernel
theorem dX0_isPair_61 : decode cX0_isPair 61 = .ok (.if_icmp .ne 5, 3) := by decide +kernel
theorem dX0_isPair_64 : decode cX0_isPair 64 = .ok (.iconst 0, 1) := by decide +kernel
theorem dX0_isPair_65 : decode cX0_isPair 65 = .ok (.ireturn, 1) := by decide +kernel
theorem dX0_isPair_66 : decode cX0_isPair 66 = .ok (.iload_n 1, 1) := by decide +kernel
theorem dX0_isPair_67 : decode cX0_isPair 67 = .ok (.iconst 2, 1) := by decide +kernel
theorem dX0_isPair_68 : decode cX0_isPair 68 = .ok (.if_icmp .eq 7, 3) := by decide +kernel
theorem dX0_isPair_71 : decode cX0_isPair 71 = .ok (.iconst 1, 1) := by decide +kernel
theorem dX0_isPair_72 : decode cX0_isPair 72 = .ok (.goto 4, 3) := by decide +kernel
theorem dX0_isPair_75 : decode cX0_isPair 75 = .ok (.iconst 0, 1) := by decide +kernel
theorem dX0_isPair_76 : decode cX0_isPair 76 = .ok (.istore 6, 2) := by decide +kernel
theorem dX0_isPair_78 : decode cX0_isPair 78 = .ok (.iload 6, 2) := by decide +kernel
theorem dX0_isPair_80 : decode cX0_isPair 80 = .ok (.ifCond .eq 20, 3) := by decide +kernel
theorem dX0_isPair_83 : decode cX0_isPair 83 = .ok (.iload_n 3, 1) := by decide +kernel
theorem dX0_isPair_84 : decode cX0_isPair 84 = .ok (.bipush 31, 2) := by decide +kernel
theorem dX0_isPair_86 : decode cX0_isPair 86 = .ok (.if_icmp .eq 14, 3) := by decide +kernel
theorem dX0_isPair_89 : decode cX0_isPair 89 = .ok (.iload_n 3, 1) := by decide +kernel
theorem dX0_isPair_90 : decode cX0_isPair 90 = .ok (.iload_n 2, 1) := by decide +kernel
theorem dX0_isPair_91 : decode cX0_isPair 91 = .ok (.if_icmp .eq 13, 3) := by decide +kernel
theorem dX0_isPair_94 : decode cX0_isPair 94 = .ok (.iload_n 3, 1) := by decide +kernel
theorem dX0_isPair_95 : decode cX0_isPair 95 = .ok (.iload 4, 2) := by decide +kernel
theorem dX0_isPair_97 : decode cX0_isPair 97 = .ok (.if_icmp .eq 7, 3) := by decide +kernel
theorem dX0_isPair_100 : decode cX0_isPair 100 = .ok (.iconst 1, 1) := by decide +kernel
theorem dX0_isPair_101 : decode cX0_isPair 101 = .ok (.goto 4, 3) := by decide +kernel
theorem dX0_isPair_104 : decode cX0_isPair 104 = .ok (.iconst 0, 1) := by decide +kernel
theorem dX0_isPair_105 : decode cX0_isPair 105 = .ok (.ireturn, 1) := by decide +kernel
theorem dX0_isGoing_0 : decode cX0_isGoing 0 = .ok (.iload_n 0, 1) := by decide +kernel
theorem dX0_isGoing_1 : decode cX0_isGoing 1 = .ok (.bipush 12, 2) := by decide +kernel
theorem dX0_isGoing_3 : decode cX0_isGoing 3 = .ok (.if_icmp .lt 13, 3) := by decide +kernel
theorem dX0_isGoing_6 : decode cX0_isGoing 6 = .ok (.iload_n 0, 1) := by decide +kernel
theorem dX0_isGoing_7 : decode cX0_isGoing 7 = .ok (.bipush 16, 2) := by decide +kernel
theorem dX0_isGoing_9 : decode cX0_isGoing 9 = .ok (.if_icmp .gt 7, 3) := by decide +kernel
theorem dX0_isGoing_12 : decode cX0_isGoing 12 = .ok (.iconst 1, 1) := by decide +kernel
theorem dX0_isGoing_13 : decode cX0_isGoing 13 = .ok (.goto 4, 3) := by decide +kernel
theorem dX0_isGoing_16 : decode cX0_isGoing 16 = .ok (.iconst 0, 1) := by decide +kernel
theorem dX0_isGoing_17 : decode cX0_isGoing 17 = .ok (.ireturn, 1) := by decide +kernel
theorem dX0_distancePlace_0 : decode cX0_distancePlace 0 = .ok (.iload_n 0, 1) := by decide +kernel
theorem dX0_distancePlace_1 : decode cX0_distancePlace 1 = .ok (.bipush 12, 2) := by decide +kernel
theorem dX0_distancePlace_3 : decode cX0_distancePlace 3 = .ok (.if_icmp .eq 9, 3) := by decide +kernel
theorem dX0_distancePlace_6 : decode cX0_distancePlace 6 = .ok (.iload_n 0, 1) := by decide +kernel
theorem dX0_distancePlace_7 : decode cX0_distancePlace 7 = .ok (.bipush 13, 2) := by decide +kernel
theorem dX0_distancePlace_9 : decode cX0_distancePlace 9 = .ok (.if_icmp .ne 7, 3) := by decide +kernel
theorem dX0_distancePlace_12 : decode cX0_distancePlace 12 = .ok (.iconst 0, 1) := by decide +kernel
theorem dX0_distancePlace_13 : decode cX0_distancePlace 13 = .ok (.goto 4, 3) := by decide +kernel
theorem dX0_distancePlace_16 : decode cX0_distancePlace 16 = .ok (.iconst 5, 1) := by decide +kernel
theorem dX0_distancePlace_17 : decode cX0_distancePlace 17 = .ok (.ireturn, 1) := by decide +kernel
theorem dX0_distanceWidth_0 : decode cX0_distanceWidth 0 = .ok (.iload_n 0, 1) := by decide +kernel
theorem dX0_distanceWidth_1 : decode cX0_distanceWidth 1 = .ok (.bipush 12, 2) := by decide +kernel
theorem dX0_distanceWidth_3 : decode cX0_distanceWidth 3 = .ok (.if_icmp .eq 9, 3) := by decide +kernel
theorem dX0_distanceWidth_6 : decode cX0_distanceWidth 6 = .ok (.iload_n 0, 1) := by decide +kernel
theorem dX0_distanceWidth_7 : decode cX0_distanceWidth 7 = .ok (.bipush 13, 2) := by decide +kernel
theorem dX0_distanceWidth_9 : decode cX0_distanceWidth 9 = .ok (.if_icmp .ne 6, 3) := by decide +kernel
theorem dX0_distanceWidth_12 : decode cX0_distanceWidth 12 = .ok (.bipush 26, 2) := by decide +kernel
theorem dX0_distanceWidth_14 : decode cX0_distanceWidth 14 = .ok (.ireturn, 1) := by decide +kernel
theorem dX0_distanceWidth_15 : decode cX0_distanceWidth 15 = .ok (.iload_n 0, 1) := by decide +kernel
theorem dX0_distanceWidth_16 : decode cX0_distanceWidth 16 = .ok (.bipush 16, 2) := by decide +kernel
theorem dX0_distanceWidth_18 : decode cX0_distanceWidth 18 = .ok (.if_icmp .ne 8, 3) := by decide +kernel
theorem dX0_distanceWidth_21 : decode cX0_distanceWidth 21 = .ok (.bipush 14, 2) := by decide +kernel
theorem dX0_distanceWidth_23 : decode cX0_distanceWidth 23 = .ok (.goto 5, 3) := by decide +kernel
theorem dX0_distanceWidth_26 : decode cX0_distanceWidth 26 = .ok (.bipush 19, 2) := by decide +kernel
theorem dX0_distanceWidth_28 : decode cX0_distanceWidth 28 = .ok (.ireturn, 1) := by decide +kernel
set_option maxRecDepth 20000 in
theorem ggX0_isWithinReach_X0_isGoing : GoodIn wsX0_isWithinReach wsX0_isGoing := goodIn_rc _ [5] [] rfl (by decide +kernel) (by decide +kernel)
set_option maxRecDepth 20000 in
theorem gX0_isWithinReach_X0_isGoing : GoodIn wsX0_isWithinReach (va_wsS RX0 20 yX0_isGoing wsX0_isGoing) := goodIn_app (goodIn_of _ (by decide +kernel)) ggX0_isWithinReach_X0_isGoing
set_option maxRecDepth 20000 in
theorem ggX0_isWithinReach_X0_distanceWidth : GoodIn wsX0_isWithinReach wsX0_distanceWidth := goodIn_rc _ [8] [] rfl (by decide +kernel) (by decide +kernel)
set_option maxRecDepth 20000 in
theorem gX0_isWithinReach_X0_distanceWidth : GoodIn wsX0_isWithinReach (va_wsS RX0 27 yX0_distanceWidth wsX0_distanceWidth) := goodIn_app (goodIn_of _ (by decide +kernel)) ggX0_isWithinReach_X0_distanceWidth
theorem dX0_isWithinReach_0 : decode cX0_isWithinReach 0 = .ok (.iload_n 0, 1) := by decide +kernel
theorem dX0_isWithinReach_1 : decode cX0_isWithinReach 1 = .ok (.invokestatic 20, 3) := by decide +kernel
theorem dX0_isWithinReach_4 : decode cX0_isWithinReach 4 = .ok (.ifCond .eq 13, 3) := by decide +kernel
theorem dX0_isWithinReach_7 : decode cX0_isWithinReach 7 = .ok (.lload_n 1, 1) := by decide +kernel
theorem dX0_isWithinReach_8 : decode cX0_isWithinReach 8 = .ok (.ldc2_w 88, 3) := by decide +kernel
theorem dX0_isWithinReach_11 : decode cX0_isWithinReach 11 = .ok (.land, 1) := by decide +kernel
theorem dX0_isWithinReach_12 : decode cX0_isWithinReach 12 = .ok (.lconst 0, 1) := by decide +kernel
theorem dX0_isWithinReach_13 : decode cX0_isWithinReach 13 = .ok (.lcmp, 1) := by decide +kernel
theorem dX0_isWithinReach_14 : decode cX0_isWithinReach 14 = .ok (.ifCond .eq 5, 3) := by decide +kernel
theorem dX0_isWithinReach_17 : decode cX0_isWithinReach 17 = .ok (.iconst 0, 1) := by decide +kernel
theorem dX0_isWithinReach_18 : decode cX0_isWithinReach 18 = .ok (.ireturn, 1) := by decide +kernel
theorem dX0_isWithinReach_19 : decode cX0_isWithinReach 19 = .ok (.lconst 1, 1) := by decide +kernel
theorem dX0_isWithinReach_20 : decode cX0_isWithinReach 20 = .ok (.iload_n 0, 1) := by decide +kernel
theorem dX0_isWithinReach_21 : decode cX0_isWithinReach 21 = .ok (.invokestatic 27, 3) := by decide +kernel
theorem dX0_isWithinReach_24 : decode cX0_isWithinReach 24 = .ok (.iconst 1, 1) := by decide +kernel
theorem dX0_isWithinReach_25 : decode cX0_isWithinReach 25 = .ok (.iadd, 1) := by decide +kernel
theorem dX0_isWithinReach_26 : decode cX0_isWithinReach 26 = .ok (.lshl, 1) := by decide +kernel
theorem dX0_isWithinReach_27 : decode cX0_isWithinReach 27 = .ok (.lstore_n 3, 1) := by decide +kernel
theorem dX0_isWithinReach_28 : decode cX0_isWithinReach 28 = .ok (.lload_n 1, 1) := by decide +kernel
theorem dX0_isWithinReach_29 : decode cX0_isWithinReach 29 = .ok (.lload_n 3, 1) := by decide +kernel
theorem dX0_isWithinReach_30 : decode cX0_isWithinReach 30 = .ok (.lneg, 1) := by decide +kernel
theorem dX0_isWithinReach_31 : decode cX0_isWithinReach 31 = .ok (.lcmp, 1) := by decide +kernel
theorem dX0_isWithinReach_32 : decode cX0_isWithinReach 32 = .ok (.ifCond .lt 13, 3) := by decide +kernel
theorem dX0_isWithinReach_35 : decode cX0_isWithinReach 35 = .ok (.lload_n 1, 1) := by decide +kernel
theorem dX0_isWithinReach_36 : decode cX0_isWithinReach 36 = .ok (.lload_n 3, 1) := by decide +kernel
theorem dX0_isWithinReach_37 : decode cX0_isWithinReach 37 = .ok (.lcmp, 1) := by decide +kernel
theorem dX0_isWithinReach_38 : decode cX0_isWithinReach 38 = .ok (.ifCond .ge 7, 3) := by decide +kernel
theorem dX0_isWithinReach_41 : decode cX0_isWithinReach 41 = .ok (.iconst 1, 1) := by decide +kernel
theorem dX0_isWithinReach_42 : decode cX0_isWithinReach 42 = .ok (.goto 4, 3) := by decide +kernel
theorem dX0_isWithinReach_45 : decode cX0_isWithinReach 45 = .ok (.iconst 0, 1) := by decide +kernel
theorem dX0_isWithinReach_46 : decode cX0_isWithinReach 46 = .ok (.ireturn, 1) := by decide +kernel
theorem dX0_hasD_0 : decode cX0_hasD 0 = .ok (.iload_n 0, 1) := by decide +kernel
theorem dX0_hasD_1 : decode cX0_hasD 1 = .ok (.iconst 1, 1) := by decide +kernel
theorem dX0_hasD_2 : decode cX0_hasD 2 = .ok (.if_icmp .lt 9, 3) := by decide +kernel
theorem dX0_hasD_5 : decode cX0_hasD 5 = .ok (.iload_n 0, 1) := by decide +kernel
theorem dX0_hasD_6 : decode cX0_hasD 6 = .ok (.bipush 11, 2) := by decide +kernel
theorem dX0_hasD_8 : decode cX0_hasD 8 = .ok (.if_icmp .le 15, 3) := by decide +kernel
theorem dX0_hasD_11 : decode cX0_hasD 11 = .ok (.iload_n 0, 1) := by decide +kernel
theorem dX0_hasD_12 : decode cX0_hasD 12 = .ok (.bipush 15, 2) := by decide +kernel
theorem dX0_hasD_14 : decode cX0_hasD 14 = .ok (.if_icmp .eq 9, 3) := by decide +kernel
theorem dX0_hasD_17 : decode cX0_hasD 17 = .ok (.iload_n 0, 1) := by decide +kernel
theorem dX0_hasD_18 : decode cX0_hasD 18 = .ok (.bipush 16, 2) := by decide +kernel
theorem dX0_hasD_20 : decode cX0_hasD 20 = .ok (.if_icmp .ne 7, 3) := by decide +kernel
theorem dX0_hasD_23 : decode cX0_hasD 23 = .ok (.iconst 1, 1) := by decide +kernel
theorem dX0_hasD_24 : decode cX0_hasD 24 = .ok (.goto 4, 3) := by decide +kernel
theorem dX0_hasD_27 : decode cX0_hasD 27 = .ok (.iconst 0, 1) := by decide +kernel
theorem dX0_hasD_28 : decode cX0_hasD 28 = .ok (.ireturn, 1) := by decide +kernel
theorem dX0_hasN_0 : decode cX0_hasN 0 = .ok (.iload_n 0, 1) := by decide +kernel
theorem dX0_hasN_1 : decode cX0_hasN 1 = .ok (.iconst 1, 1) := by decide +kernel
theorem dX0_hasN_2 : decode cX0_hasN 2 = .ok (.if_icmp .lt 8, 3) := by decide +kernel
theorem dX0_hasN_5 : decode cX0_hasN 5 = .ok (.iload_n 0, 1) := by decide +kernel
theorem dX0_hasN_6 : decode cX0_hasN 6 = .ok (.iconst 3, 1) := by decide +kernel
theorem dX0_hasN_7 : decode cX0_hasN 7 = .ok (.if_icmp .le 27, 3) := by decide +kernel
theorem dX0_hasN_10 : decode cX0_hasN 10 = .ok (.iload_n 0, 1) := by decide +kernel
theorem dX0_hasN_11 : decode cX0_hasN 11 = .ok (.bipush 6, 2) := by decide +kernel
theorem dX0_hasN_13 : decode cX0_hasN 13 = .ok (.if_icmp .lt 9, 3) := by decide +kernel
theorem dX0_hasN_16 : decode cX0_hasN 16 = .ok (.iload_n 0, 1) := by decide +kernel
theorem dX0_hasN_17 : decode cX0_hasN 17 = .ok (.bipush 11, 2) := by decide +kernel
theorem dX0_hasN_19 : decode cX0_hasN 19 = .ok (.if_icmp .le 15, 3) := by decide +kernel
theorem dX0_hasN_22 : decode cX0_hasN 22 = .ok (.iload_n 0, 1) := by decide +kernel
theorem dX0_hasN_23 : decode cX0_hasN 23 = .ok (.bipush 17, 2) := by decide +kernel
theorem dX0_hasN_25 : decode cX0_hasN 25 = .ok (.if_icmp .lt 13, 3) := by decide +kernel
theorem dX0_hasN_28 : decode cX0_hasN 28 = .ok (.iload_n 0, 1) := by decide +kernel
theorem dX0_hasN_29 : decode cX0_hasN 29 = .ok (.bipush 19, 2) := by decide +kernel
theorem dX0_hasN_31 : decode cX0_hasN 31 = .ok (.if_icmp .gt 7, 3) := by decide +kernel
theorem dX0_hasN_34 : decode cX0_hasN 34 = .ok (.iconst 1, 1) := by decide +kernel
theorem dX0_hasN_35 : decode cX0_hasN 35 = .ok (.goto 4, 3) := by decide +kernel
theorem dX0_hasN_38 : decode cX0_hasN 38 = .ok (.iconst 0, 1) := by decide +kernel
theorem dX0_hasN_39 : decode cX0_hasN 39 = .ok (.ireturn, 1) := by decide +kernel
theorem dX0_hasM_0 : decode cX0_hasM 0 = .ok (.iload_n 0, 1) := by decide +kernel
theorem dX0_hasM_1 : decode cX0_hasM 1 = .ok (.iconst 2, 1) := by decide +kernel
theorem dX0_hasM_2 : decode cX0_hasM 2 = .ok (.if_icmp .eq 26, 3) := by decide +kernel
theorem dX0_hasM_5 : decode cX0_hasM 5 = .ok (.iload_n 0, 1) := by decide +kernel
theorem dX0_hasM_6 : decode cX0_hasM 6 = .ok (.iconst 3, 1) := by decide +kernel
theorem dX0_hasM_7 : decode cX0_hasM 7 = .ok (.if_icmp .eq 21, 3) := by decide +kernel
theorem dX0_hasM_10 : decode cX0_hasM 10 = .ok (.iload_n 0, 1) := by decide +kernel
theorem dX0_hasM_11 : decode cX0_hasM 11 = .ok (.bipush 6, 2) := by decide +kernel
theorem dX0_hasM_13 : decode cX0_hasM 13 = .ok (.if_icmp .lt 9, 3) := by decide +kernel
theorem dX0_hasM_16 : decode cX0_hasM 16 = .ok (.iload_n 0, 1) := by decide +kernel
theorem dX0_hasM_17 : decode cX0_hasM 17 = .ok (.bipush 8, 2) := by decide +kernel
theorem dX0_hasM_19 : decode cX0_hasM 19 = .ok (.if_icmp .le 9, 3) := by decide +kernel
theorem dX0_hasM_22 : decode cX0_hasM 22 = .ok (.iload_n 0, 1) := by decide +kernel
theorem dX0_hasM_23 : decode cX0_hasM 23 = .ok (.bipush 10, 2) := by decide +kernel
theorem dX0_hasM_25 : decode cX0_hasM 25 = .ok (.if_icmp .ne 7, 3) := by decide +kernel
theorem dX0_hasM_28 : decode cX0_hasM 28 = .ok (.iconst 1, 1) := by decide +kernel
theorem dX0_hasM_29 : decode cX0_hasM 29 = .ok (.goto 4, 3) := by decide +kernel
theorem dX0_hasM_32 : decode cX0_hasM 32 = .ok (.iconst 0, 1) := by decide +kernel
theorem dX0_hasM_33 : decode cX0_hasM 33 = .ok (.ireturn, 1) := by decide +kernel
theorem dX0_hasA_0 : decode cX0_hasA 0 = .ok (.iload_n 0, 1) := by decide +kernel
theorem dX0_hasA_1 : decode cX0_hasA 1 = .ok (.bipush 6, 2) := by decide +kernel
theorem dX0_hasA_3 : decode cX0_hasA 3 = .ok (.if_icmp .eq 9, 3) := by decide +kernel
theorem dX0_hasA_6 : decode cX0_hasA 6 = .ok (.iload_n 0, 1) := by decide +kernel
theorem dX0_hasA_7 : decode cX0_hasA 7 = .ok (.bipush 11, 2) := by decide +kernel
theorem dX0_hasA_9 : decode cX0_hasA 9 = .ok (.if_icmp .ne 7, 3) := by decide +kernel
theorem dX0_hasA_12 : decode cX0_hasA 12 = .ok (.iconst 1, 1) := by decide +kernel
theorem dX0_hasA_13 : decode cX0_hasA 13 = .ok (.goto 4, 3) := by decide +kernel
theorem dX0_hasA_16 : decode cX0_hasA 16 = .ok (.iconst 0, 1) := by decide +kernel
theorem dX0_hasA_17 : decode cX0_hasA 17 = .ok (.ireturn, 1) := by decide +kernel
theorem dX0_isLong_0 : decode cX0_isLong 0 = .ok (.iload_n 0, 1) := by decide +kernel
theorem dX0_isLong_1 : decode cX0_isLong 1 = .ok (.ifCond .ge 7, 3) := by decide +kernel
theorem dX0_isLong_4 : decode cX0_isLong 4 = .ok (.iconst 1, 1) := by decide +kernel
theorem dX0_isLong_5 : decode cX0_isLong 5 = .ok (.goto 4, 3) := by decide +kernel
theorem dX0_isLong_8 : decode cX0_isLong 8 = .ok (.iconst 0, 1) := by decide +kernel
theorem dX0_isLong_9 : decode cX0_isLong 9 = .ok (.ireturn, 1) := by decide +kernel
set_option maxRecDepth 20000 in
theorem ggX0_bits_X0_lowBits : GoodIn wsX0_bits wsX0_lowBits := goodIn_rc _ [4] [] rfl (by decide +kernel) (by decide +kernel)
set_option maxRecDepth 20000 in
theorem gX0_bits_X0_lowBits : GoodIn wsX0_bits (va_wsS RX0 38 yX0_lowBits wsX0_lowBits) := goodIn_app (goodIn_of _ (by decide +kernel)) ggX0_bits_X0_lowBits
theorem dX0_bits_0 : decode cX0_bits 0 = .ok (.iload_n 0, 1) := by decide +kernel
theorem dX0_bits_1 : decode cX0_bits 1 = .ok (.iload_n 1, 1) := by decide +kernel
theorem dX0_bits_2 : decode cX0_bits 2 = .ok (.iushr, 1) := by decide +kernel
theorem dX0_bits_3 : decode cX0_bits 3 = .ok (.iload_n 2, 1) := by decide +kernel
theorem dX0_bits_4 : decode cX0_bits 4 = .ok (.invokestatic 38, 3) := by decide +kernel
theorem dX0_bits_7 : decode cX0_bits 7 = .ok (.iand, 1) := by decide +kernel
theorem dX0_bits_8 : decode cX0_bits 8 = .ok (.ireturn, 1) := by decide +kernel
theorem dX0_signedBits_0 : decode cX0_signedBits 0 = .ok (.iload_n 0, 1) := by decide +kernel
theorem dX0_signedBits_1 : decode cX0_signedBits 1 = .ok (.bipush 32, 2) := by decide +kernel
theorem dX0_signedBits_3 : decode cX0_signedBits 3 = .ok (.iload_n 1, 1) := by decide +kernel
theorem dX0_signedBits_4 : decode cX0_signedBits 4 = .ok (.isub, 1) := by decide +kernel
theorem dX0_signedBits_5 : decode cX0_signedBits 5 = .ok (.iload_n 2, 1) := by decide +kernel
theorem dX0_signedBits_6 : decode cX0_signedBits 6 = .ok (.isub, 1) := by decide +kernel
theorem dX0_signedBits_7 : decode cX0_signedBits 7 = .ok (.ishl, 1) := by decide +kernel
theorem dX0_signedBits_8 : decode cX0_signedBits 8 = .ok (.bipush 32, 2) := by decide +kernel
theorem dX0_signedBits_10 : decode cX0_signedBits 10 = .ok (.iload_n 2, 1) := by decide +kernel
theorem dX0_signedBits_11 : decode cX0_signedBits 11 = .ok (.isub, 1) := by decide +kernel
theorem dX0_signedBits_12 : decode cX0_signedBits 12 = .ok (.ishr, 1) := by decide +kernel
theorem dX0_signedBits_13 : decode cX0_signedBits 13 = .ok (.ireturn, 1) := by decide +kernel
theorem dX0_lowBits_0 : decode cX0_lowBits 0 = .ok (.iconst 1, 1) := by decide +kernel
theorem dX0_lowBits_1 : decode cX0_lowBits 1 = .ok (.iload_n 0, 1) := by decide +kernel
theorem dX0_lowBits_2 : decode cX0_lowBits 2 = .ok (.ishl, 1) := by decide +kernel
theorem dX0_lowBits_3 : decode cX0_lowBits 3 = .ok (.iconst 1, 1) := by decide +kernel
theorem dX0_lowBits_4 : decode cX0_lowBits 4 = .ok (.isub, 1) := by decide +kernel
theorem dX0_lowBits_5 : decode cX0_lowBits 5 = .ok (.ireturn, 1) := by decide +kernel
theorem dX1_init_0 : decode cX1_init 0 = .ok (.aload_n 0, 1) := by decide +kernel
theorem dX1_init_1 : decode cX1_init 1 = .ok (.invokespecial 1, 3) := by decide +kernel
theorem dX1_init_4 : decode cX1_init 4 = .ok (.return_, 1) := by decide +kernel
theorem dX1_bits_0 : decode cX1_bits 0 = .ok (.iload_n 0, 1) := by decide +kernel
theorem dX1_bits_1 : decode cX1_bits 1 = .ok (.bipush 31, 2) := by decide +kernel
theorem dX1_bits_3 : decode cX1_bits 3 = .ok (.iload_n 2, 1) := by decide +kernel
theorem dX1_bits_4 : decode cX1_bits 4 = .ok (.isub, 1) := by decide +kernel
theorem dX1_bits_5 : decode cX1_bits 5 = .ok (.ishl, 1) := by decide +kernel
theorem dX1_bits_6 : decode cX1_bits 6 = .ok (.bipush 31, 2) := by decide +kernel
theorem dX1_bits_8 : decode cX1_bits 8 = .ok (.iload_n 2, 1) := by decide +kernel
theorem dX1_bits_9 : decode cX1_bits 9 = .ok (.isub, 1) := by decide +kernel
theorem dX1_bits_10 : decode cX1_bits 10 = .ok (.iload_n 1, 1) := by decide +kernel
theorem dX1_bits_11 : decode cX1_bits 11 = .ok (.iadd, 1) := by decide +kernel
theorem dX1_bits_12 : decode cX1_bits 12 = .ok (.iushr, 1) := by decide +kernel
theorem dX1_bits_13 : decode cX1_bits 13 = .ok (.ireturn, 1) := by decide +kernel
theorem dX1_signed_0 : decode cX1_signed 0 = .ok (.iload_n 0, 1) := by decide +kernel
theorem dX1_signed_1 : decode cX1_signed 1 = .ok (.bipush 31, 2) := by decide +kernel
theorem dX1_signed_3 : decode cX1_signed 3 = .ok (.iload_n 2, 1) := by decide +kernel
theorem dX1_signed_4 : decode cX1_signed 4 = .ok (.isub, 1) := by decide +kernel
theorem dX1_signed_5 : decode cX1_signed 5 = .ok (.ishl, 1) := by decide +kernel
theorem dX1_signed_6 : decode cX1_signed 6 = .ok (.bipush 31, 2) := by decide +kernel
theorem dX1_signed_8 : decode cX1_signed 8 = .ok (.iload_n 2, 1) := by decide +kernel
theorem dX1_signed_9 : decode cX1_signed 9 = .ok (.isub, 1) := by decide +kernel
theorem dX1_signed_10 : decode cX1_signed 10 = .ok (.iload_n 1, 1) := by decide +kernel
theorem dX1_signed_11 : decode cX1_signed 11 = .ok (.iadd, 1) := by decide +kernel
theorem dX1_signed_12 : decode cX1_signed 12 = .ok (.ishr, 1) := by decide +kernel
theorem dX1_signed_13 : decode cX1_signed 13 = .ok (.ireturn, 1) := by decide +kernel
set_option maxRecDepth 20000 in
theorem ggX1_kind_X1_bits : GoodIn wsX1_kind wsX1_bits := goodIn_rc _ [4] [] rfl (by decide +kernel) (by decide +kernel)
set_option maxRecDepth 20000 in
theorem gX1_kind_X1_bits : GoodIn wsX1_kind (va_wsS RX1 7 yX1_bits wsX1_bits) := goodIn_app (goodIn_of _ (by decide +kernel)) ggX1_kind_X1_bits
set_option maxRecDepth 20000 in
theorem ggX1_kind_X1_isMoved : GoodIn wsX1_kind wsX1_isMoved := goodIn_rc _ [7, 4] [1, 2, 3] rfl (by decide +kernel) (by decide +kernel)
set_option maxRecDepth 20000 in
theorem gX1_kind_X1_isMoved : GoodIn wsX1_kind (va_wsS RX1 13 yX1_isMoved wsX1_isMoved) := goodIn_app (goodIn_of _ (by decide +kernel)) ggX1_kind_X1_isMoved
set_option maxRecDepth 20000 in
theorem ggX1_kind_X1_inTwo : GoodIn wsX1_kind wsX1_inTwo := goodIn_rc _ [10, 4] [1, 2, 3] rfl (by decide +kernel) (by decide +kernel)
set_option maxRecDepth 20000 in
theorem gX1_kind_X1_inTwo : GoodIn wsX1_kind (va_wsS RX1 17 yX1_inTwo wsX1_inTwo) := goodIn_app (goodIn_of _ (by decide +kernel)) ggX1_kind_X1_inTwo
set_option maxRecDepth 20000 in
theorem ggX1_kind_X1_isByRegister : GoodIn wsX1_kind wsX1_isByRegister := goodIn_rc _ [13, 4] [1, 2, 3] rfl (by decide +kernel) (by decide +kernel)
set_option maxRecDepth 20000 in
theorem gX1_kind_X1_isByRegister : GoodIn wsX1_kind (va_wsS RX1 21 yX1_isByRegister wsX1_isByRegister) := goodIn_app (goodIn_of _ (by decide +kernel)) ggX1_kind_X1_isByRegister
set_option maxRecDepth 20000 in
theorem ggX1_kind_X1_isSize : GoodIn wsX1_kind wsX1_isSize := goodIn_rc _ [16, 4] [1, 2, 3] rfl (by decide +kernel) (by decide +kernel)
set_option maxRecDepth 20000 in
theorem gX1_kind_X1_isSize : GoodIn wsX1_kind (va_wsS RX1 24 yX1_isSize wsX1_isSize) := goodIn_app (goodIn_of _ (by decide +kernel)) ggX1_kind_X1_isSize
set_option maxRecDepth 20000 in
theorem ggX1_kind_X1_isPair : GoodIn wsX1_kind wsX1_isPair := goodIn_rc _ [19, 4] [1, 2, 3] rfl (by decide +kernel) (by decide +kernel)
set_option maxRecDepth 20000 in
theorem gX1_kind_X1_isPair : GoodIn wsX1_kind (va_wsS RX1 27 yX1_isPair wsX1_isPair) := goodIn_app (goodIn_of _ (by decide +kernel)) ggX1_kind_X1_isPair
set_option maxRecDepth 20000 in
theorem ggX1_kind_X1_jumps : GoodIn wsX1_kind wsX1_jumps := goodIn_rc _ [23, 4, 27] [24, 1, 2, 3, 25, 26] rfl (by decide +kernel) (by decide +kernel)
set_option maxRecDepth 20000 in
theorem gX1_kind_X1_jumps : GoodIn wsX1_kind (wsV RX1 30 RX1 yX1_jumps wsX1_jumps) := goodIn_app (goodIn_of _ (by decide +kernel)) ggX1_kind_X1_jumps
theorem dX1_kind_0 : decode cX1_kind 0 = .ok (.iload_n 1, 1) := by decide +kernel
theorem dX1_kind_1 : decode cX1_kind 1 = .ok (.bipush 24, 2) := by decide +kernel
theorem dX1_kind_3 : decode cX1_kind 3 = .ok (.bipush 28, 2) := by decide +kernel
theorem dX1_kind_5 : decode cX1_kind 5 = .ok (.invokestatic 7, 3) := by decide +kernel
theorem dX1_kind_8 : decode cX1_kind 8 = .ok (.istore_n 2, 1) := by decide +kernel
theorem dX1_kind_9 : decode cX1_kind 9 = .ok (.iload_n 2, 1) := by decide +kernel
theorem dX1_kind_10 : decode cX1_kind 10 = .ok (.tableswitch 350 8 27 #[323, 323, 166, 179, 350, 350, 350, 350, 94, 104, 121, 350, 350, 350, 350, 350, 264, 297, 215, 235], 94) := by decide +kernel
theorem dX1_kind_104 : decode cX1_kind 104 = .ok (.iload_n 1, 1) := by decide +kernel
theorem dX1_kind_105 : decode cX1_kind 105 = .ok (.ifCond .ge 7, 3) := by decide +kernel
theorem dX1_kind_108 : decode cX1_kind 108 = .ok (.iconst 5, 1) := by decide +kernel
theorem dX1_kind_109 : decode cX1_kind 109 = .ok (.goto 4, 3) := by decide +kernel
theorem dX1_kind_112 : decode cX1_kind 112 = .ok (.iconst 0, 1) := by decide +kernel
theorem dX1_kind_113 : decode cX1_kind 113 = .ok (.ireturn, 1) := by decide +kernel
theorem dX1_kind_114 : decode cX1_kind 114 = .ok (.iload_n 1, 1) := by decide +kernel
theorem dX1_kind_115 : decode cX1_kind 115 = .ok (.bipush 23, 2) := by decide +kernel
theorem dX1_kind_117 : decode cX1_kind 117 = .ok (.bipush 23, 2) := by decide +kernel
theorem dX1_kind_119 : decode cX1_kind 119 = .ok (.invokestatic 7, 3) := by decide +kernel
theorem dX1_kind_122 : decode cX1_kind 122 = .ok (.ifCond .ne 7, 3) := by decide +kernel
theorem dX1_kind_125 : decode cX1_kind 125 = .ok (.iconst 1, 1) := by decide +kernel
theorem dX1_kind_126 : decode cX1_kind 126 = .ok (.goto 4, 3) := by decide +kernel
theorem dX1_kind_129 : decode cX1_kind 129 = .ok (.iconst 0, 1) := by decide +kernel
theorem dX1_kind_130 : decode cX1_kind 130 = .ok (.ireturn, 1) := by decide +kernel
theorem dX1_kind_131 : decode cX1_kind 131 = .ok (.iload_n 1, 1) := by decide +kernel
theorem dX1_kind_132 : decode cX1_kind 132 = .ok (.bipush 23, 2) := by decide +kernel
theorem dX1_kind_134 : decode cX1_kind 134 = .ok (.bipush 23, 2) := by decide +kernel
theorem dX1_kind_136 : decode cX1_kind 136 = .ok (.invokestatic 7, 3) := by decide +kernel
theorem dX1_kind_139 : decode cX1_kind 139 = .ok (.iconst 1, 1) := by decide +kernel
theorem dX1_kind_140 : decode cX1_kind 140 = .ok (.if_icmp .ne 34, 3) := by decide +kernel
theorem dX1_kind_143 : decode cX1_kind 143 = .ok (.iload_n 1, 1) := by decide +kernel
theorem dX1_kind_144 : decode cX1_kind 144 = .ok (.bipush 29, 2) := by decide +kernel
theorem dX1_kind_146 : decode cX1_kind 146 = .ok (.bipush 30, 2) := by decide +kernel
theorem dX1_kind_148 : decode cX1_kind 148 = .ok (.invokestatic 7, 3) := by decide +kernel
theorem dX1_kind_151 : decode cX1_kind 151 = .ok (.iconst 1, 1) := by decide +kernel
theorem dX1_kind_152 : decode cX1_kind 152 = .ok (.if_icmp .eq 22, 3) := by decide +kernel
theorem dX1_kind_155 : decode cX1_kind 155 = .ok (.iload_n 1, 1) := by decide +kernel
theorem dX1_kind_156 : decode cX1_kind 156 = .ok (.ifCond .lt 14, 3) := by decide +kernel
theorem dX1_kind_159 : decode cX1_kind 159 = .ok (.iload_n 1, 1) := by decide +kernel
theorem dX1_kind_160 : decode cX1_kind 160 = .ok (.bipush 22, 2) := by decide +kernel
theorem dX1_kind_162 : decode cX1_kind 162 = .ok (.bipush 22, 2) := by decide +kernel
theorem dX1_kind_164 : decode cX1_kind 164 = .ok (.invokestatic 7, 3) := by decide +kernel
theorem dX1_kind_167 : decode cX1_kind 167 = .ok (.ifCond .ne 7, 3) := by decide +kernel
theorem dX1_kind_170 : decode cX1_kind 170 = .ok (.iconst 4, 1) := by decide +kernel
theorem dX1_kind_171 : decode cX1_kind 171 = .ok (.goto 4, 3) := by decide +kernel
theorem dX1_kind_174 : decode cX1_kind 174 = .ok (.iconst 0, 1) := by decide +kernel
theorem dX1_kind_175 : decode cX1_kind 175 = .ok (.ireturn, 1) := by decide +kernel
theorem dX1_kind_176 : decode cX1_kind 176 = .ok (.iload_n 1, 1) := by decide +kernel
theorem dX1_kind_177 : decode cX1_kind 177 = .ok (.invokestatic 13, 3) := by decide +kernel
theorem dX1_kind_180 : decode cX1_kind 180 = .ok (.ifCond .eq 7, 3) := by decide +kernel
theorem dX1_kind_183 : decode cX1_kind 183 = .ok (.iconst 3, 1) := by decide +kernel
theorem dX1_kind_184 : decode cX1_kind 184 = .ok (.goto 4, 3) := by decide +kernel
theorem dX1_kind_187 : decode cX1_kind 187 = .ok (.iconst 0, 1) := by decide +kernel
theorem dX1_kind_188 : decode cX1_kind 188 = .ok (.ireturn, 1) := by decide +kernel
theorem dX1_kind_189 : decode cX1_kind 189 = .ok (.iload_n 1, 1) := by decide +kernel
theorem dX1_kind_190 : decode cX1_kind 190 = .ok (.bipush 21, 2) := by decide +kernel
theorem dX1_kind_192 : decode cX1_kind 192 = .ok (.bipush 21, 2) := by decide +kernel
theorem dX1_kind_194 : decode cX1_kind 194 = .ok (.invokestatic 7, 3) := by decide +kernel
theorem dX1_kind_197 : decode cX1_kind 197 = .ok (.ifCond .ne 26, 3) := by decide +kernel
theorem dX1_kind_200 : decode cX1_kind 200 = .ok (.iload_n 1, 1) := by decide +kernel
theorem dX1_kind_201 : decode cX1_kind 201 = .ok (.bipush 22, 2) := by decide +kernel
theorem dX1_kind_203 : decode cX1_kind 203 = .ok (.bipush 23, 2) := by decide +kernel
theorem dX1_kind_205 : decode cX1_kind 205 = .ok (.invokestatic 7, 3) := by decide +kernel
theorem dX1_kind_208 : decode cX1_kind 208 = .ok (.iconst 3, 1) := by decide +kernel
theorem dX1_kind_209 : decode cX1_kind 209 = .ok (.if_icmp .eq 14, 3) := by decide +kernel
theorem dX1_kind_212 : decode cX1_kind 212 = .ok (.iload_n 1, 1) := by decide +kernel
theorem dX1_kind_213 : decode cX1_kind 213 = .ok (.invokestatic 13, 3) := by decide +kernel
theorem dX1_kind_216 : decode cX1_kind 216 = .ok (.ifCond .eq 7, 3) := by decide +kernel
theorem dX1_kind_219 : decode cX1_kind 219 = .ok (.iconst 2, 1) := by decide +kernel
theorem dX1_kind_220 : decode cX1_kind 220 = .ok (.goto 4, 3) := by decide +kernel
theorem dX1_kind_223 : decode cX1_kind 223 = .ok (.iconst 0, 1) := by decide +kernel
theorem dX1_kind_224 : decode cX1_kind 224 = .ok (.ireturn, 1) := by decide +kernel
theorem dX1_kind_225 : decode cX1_kind 225 = .ok (.iload_n 1, 1) := by decide +kernel
theorem dX1_kind_226 : decode cX1_kind 226 = .ok (.bipush 29, 2) := by decide +kernel
theorem dX1_kind_228 : decode cX1_kind 228 = .ok (.bipush 30, 2) := by decide +kernel
theorem dX1_kind_230 : decode cX1_kind 230 = .ok (.invokestatic 7, 3) := by decide +kernel
theorem dX1_kind_233 : decode cX1_kind 233 = .ok (.ifCond .le 7, 3) := by decide +kernel
theorem dX1_kind_236 : decode cX1_kind 236 = .ok (.iconst 0, 1) := by decide +kernel
theorem dX1_kind_237 : decode cX1_kind 237 = .ok (.goto 7, 3) := by decide +kernel
theorem dX1_kind_240 : decode cX1_kind 240 = .ok (.iload_n 1, 1) := by decide +kernel
theorem dX1_kind_241 : decode cX1_kind 241 = .ok (.invokestatic 17, 3) := by decide +kernel
theorem dX1_kind_244 : decode cX1_kind 244 = .ok (.ireturn, 1) := by decide +kernel
theorem dX1_kind_245 : decode cX1_kind 245 = .ok (.iload_n 1, 1) := by decide +kernel
theorem dX1_kind_246 : decode cX1_kind 246 = .ok (.bipush 21, 2) := by decide +kernel
theorem dX1_kind_248 : decode cX1_kind 248 = .ok (.bipush 23, 2) := by decide +kernel
theorem dX1_kind_250 : decode cX1_kind 250 = .ok (.invokestatic 7, 3) := by decide +kernel
theorem dX1_kind_253 : decode cX1_kind 253 = .ok (.ifCond .ne 19, 3) := by decide +kernel
theorem dX1_kind_256 : decode cX1_kind 256 = .ok (.iload_n 1, 1) := by decide +kernel
theorem dX1_kind_257 : decode cX1_kind 257 = .ok (.bipush 29, 2) := by decide +kernel
theorem dX1_kind_259 : decode cX1_kind 259 = .ok (.bipush 30, 2) := by decide +kernel
theorem dX1_kind_261 : decode cX1_kind 261 = .ok (.invokestatic 7, 3) := by decide +kernel
theorem dX1_kind_264 : decode cX1_kind 264 = .ok (.ifCond .ne 8, 3) := by decide +kernel
theorem dX1_kind_267 : decode cX1_kind 267 = .ok (.bipush 6, 2) := by decide +kernel
theorem dX1_kind_269 : decode cX1_kind 269 = .ok (.goto 4, 3) := by decide +kernel
theorem dX1_kind_272 : decode cX1_kind 272 = .ok (.iconst 0, 1) := by decide +kernel
theorem dX1_kind_273 : decode cX1_kind 273 = .ok (.ireturn, 1) := by decide +kernel
theorem dX1_kind_274 : decode cX1_kind 274 = .ok (.iload_n 1, 1) := by decide +kernel
theorem dX1_kind_275 : decode cX1_kind 275 = .ok (.bipush 29, 2) := by decide +kernel
theorem dX1_kind_277 : decode cX1_kind 277 = .ok (.bipush 29, 2) := by decide +kernel
theorem dX1_kind_279 : decode cX1_kind 279 = .ok (.invokestatic 7, 3) := by decide +kernel
theorem dX1_kind_282 : decode cX1_kind 282 = .ok (.iconst 1, 1) := by decide +kernel
theorem dX1_kind_283 : decode cX1_kind 283 = .ok (.if_icmp .ne 22, 3) := by decide +kernel
theorem dX1_kind_286 : decode cX1_kind 286 = .ok (.iload_n 1, 1) := by decide +kernel
theorem dX1_kind_287 : decode cX1_kind 287 = .ok (.invokestatic 21, 3) := by decide +kernel
theorem dX1_kind_290 : decode cX1_kind 290 = .ok (.ifCond .eq 15, 3) := by decide +kernel
theorem dX1_kind_293 : decode cX1_kind 293 = .ok (.iload_n 1, 1) := by decide +kernel
theorem dX1_kind_294 : decode cX1_kind 294 = .ok (.invokestatic 24, 3) := by decide +kernel
theorem dX1_kind_297 : decode cX1_kind 297 = .ok (.ifCond .eq 8, 3) := by decide +kernel
theorem dX1_kind_300 : decode cX1_kind 300 = .ok (.bipush 10, 2) := by decide +kernel
theorem dX1_kind_302 : decode cX1_kind 302 = .ok (.goto 4, 3) := by decide +kernel
theorem dX1_kind_305 : decode cX1_kind 305 = .ok (.iconst 0, 1) := by decide +kernel
theorem dX1_kind_306 : decode cX1_kind 306 = .ok (.ireturn, 1) := by decide +kernel
theorem dX1_kind_307 : decode cX1_kind 307 = .ok (.iload_n 1, 1) := by decide +kernel
theorem dX1_kind_308 : decode cX1_kind 308 = .ok (.bipush 29, 2) := by decide +kernel
theorem dX1_kind_310 : decode cX1_kind 310 = .ok (.bipush 29, 2) := by decide +kernel
theorem dX1_kind_312 : decode cX1_kind 312 = .ok (.invokestatic 7, 3) := by decide +kernel
theorem dX1_kind_315 : decode cX1_kind 315 = .ok (.iconst 1, 1) := by decide +kernel
theorem dX1_kind_316 : decode cX1_kind 316 = .ok (.if_icmp .ne 15, 3) := by decide +kernel
theorem dX1_kind_319 : decode cX1_kind 319 = .ok (.iload_n 1, 1) := by decide +kernel
theorem dX1_kind_320 : decode cX1_kind 320 = .ok (.invokestatic 24, 3) := by decide +kernel
theorem dX1_kind_323 : decode cX1_kind 323 = .ok (.ifCond .eq 8, 3) := by decide +kernel
theorem dX1_kind_326 : decode cX1_kind 326 = .ok (.bipush 9, 2) := by decide +kernel
theorem dX1_kind_328 : decode cX1_kind 328 = .ok (.goto 4, 3) := by decide +kernel
theorem dX1_kind_331 : decode cX1_kind 331 = .ok (.iconst 0, 1) := by decide +kernel
theorem dX1_kind_332 : decode cX1_kind 332 = .ok (.ireturn, 1) := by decide +kernel
theorem dX1_kind_333 : decode cX1_kind 333 = .ok (.iload_n 1, 1) := by decide +kernel
theorem dX1_kind_334 : decode cX1_kind 334 = .ok (.bipush 25, 2) := by decide +kernel
theorem dX1_kind_336 : decode cX1_kind 336 = .ok (.bipush 31, 2) := by decide +kernel
theorem dX1_kind_338 : decode cX1_kind 338 = .ok (.invokestatic 7, 3) := by decide +kernel
theorem dX1_kind_341 : decode cX1_kind 341 = .ok (.bipush 84, 2) := by decide +kernel
theorem dX1_kind_343 : decode cX1_kind 343 = .ok (.if_icmp .ne 15, 3) := by decide +kernel
theorem dX1_kind_346 : decode cX1_kind 346 = .ok (.iload_n 1, 1) := by decide +kernel
theorem dX1_kind_347 : decode cX1_kind 347 = .ok (.invokestatic 27, 3) := by decide +kernel
theorem dX1_kind_350 : decode cX1_kind 350 = .ok (.ifCond .eq 8, 3) := by decide +kernel
theorem dX1_kind_353 : decode cX1_kind 353 = .ok (.bipush 11, 2) := by decide +kernel

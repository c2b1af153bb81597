set_option maxRecDepth 20000 in
theorem ggX0_sevensFor_X0_plainSeven : GoodIn wsX0_sevensFor wsX0_plainSeven := goodIn_r _ [4, 5, 6, 7, 8, 3, 9, 10, 11, 12] rfl (by decide +kernel)
set_option maxRecDepth 20000 in
theorem gX0_sevensFor_X0_plainSeven : GoodIn wsX0_sevensFor (va_wsS RX0 9 yX0_plainSeven wsX0_plainSeven) := goodIn_app (goodIn_of _ (by decide +kernel)) ggX0_sevensFor_X0_plainSeven
set_option maxRecDepth 20000 in
theorem ggX0_sevensFor_X0_escapedSeven : GoodIn wsX0_sevensFor wsX0_escapedSeven := goodIn_r _ [15, 16, 17, 10, 11, 3, 12] rfl (by decide +kernel)
set_option maxRecDepth 20000 in
theorem gX0_sevensFor_X0_escapedSeven : GoodIn wsX0_sevensFor (va_wsS RX0 15 yX0_escapedSeven wsX0_escapedSeven) := goodIn_app (goodIn_of _ (by decide +kernel)) ggX0_sevensFor_X0_escapedSeven
theorem dX0_sevensFor_0 : decode cX0_sevensFor 0 = .ok (.iload_n 0, 1) := by decide +kernel
theorem dX0_sevensFor_1 : decode cX0_sevensFor 1 = .ok (.invokestatic 9, 3) := by decide +kernel
theorem dX0_sevensFor_4 : decode cX0_sevensFor 4 = .ok (.iconst (-1), 1) := by decide +kernel
theorem dX0_sevensFor_5 : decode cX0_sevensFor 5 = .ok (.if_icmp .eq 5, 3) := by decide +kernel
theorem dX0_sevensFor_8 : decode cX0_sevensFor 8 = .ok (.iconst 1, 1) := by decide +kernel
theorem dX0_sevensFor_9 : decode cX0_sevensFor 9 = .ok (.ireturn, 1) := by decide +kernel
theorem dX0_sevensFor_10 : decode cX0_sevensFor 10 = .ok (.iload_n 0, 1) := by decide +kernel
theorem dX0_sevensFor_11 : decode cX0_sevensFor 11 = .ok (.invokestatic 15, 3) := by decide +kernel
theorem dX0_sevensFor_14 : decode cX0_sevensFor 14 = .ok (.iconst (-1), 1) := by decide +kernel
theorem dX0_sevensFor_15 : decode cX0_sevensFor 15 = .ok (.if_icmp .eq 7, 3) := by decide +kernel
theorem dX0_sevensFor_18 : decode cX0_sevensFor 18 = .ok (.iconst 2, 1) := by decide +kernel
theorem dX0_sevensFor_19 : decode cX0_sevensFor 19 = .ok (.goto 4, 3) := by decide +kernel
theorem dX0_sevensFor_22 : decode cX0_sevensFor 22 = .ok (.iconst 0, 1) := by decide +kernel
theorem dX0_sevensFor_23 : decode cX0_sevensFor 23 = .ok (.ireturn, 1) := by decide +kernel
set_option maxRecDepth 20000 in
theorem ggX0_plainSeven_X0_isItsOwnSeven : GoodIn wsX0_plainSeven wsX0_isItsOwnSeven := goodIn_r _ [6] rfl (by decide +kernel)
set_option maxRecDepth 20000 in
theorem gX0_plainSeven_X0_isItsOwnSeven : GoodIn wsX0_plainSeven (va_wsS RX0 18 yX0_isItsOwnSeven wsX0_isItsOwnSeven) := goodIn_app (goodIn_of _ (by decide +kernel)) ggX0_plainSeven_X0_isItsOwnSeven
set_option maxRecDepth 20000 in
theorem ggX0_plainSeven_X0_partner : GoodIn wsX0_plainSeven wsX0_partner := goodIn_r _ [9] rfl (by decide +kernel)
set_option maxRecDepth 20000 in
theorem gX0_plainSeven_X0_partner : GoodIn wsX0_plainSeven (va_wsS RX0 29 yX0_partner wsX0_partner) := goodIn_app (goodIn_of _ (by decide +kernel)) ggX0_plainSeven_X0_partner
theorem dX0_plainSeven_0 : decode cX0_plainSeven 0 = .ok (.iload_n 0, 1) := by decide +kernel
theorem dX0_plainSeven_1 : decode cX0_plainSeven 1 = .ok (.invokestatic 18, 3) := by decide +kernel
theorem dX0_plainSeven_4 : decode cX0_plainSeven 4 = .ok (.ifCond .eq 7, 3) := by decide +kernel
theorem dX0_plainSeven_7 : decode cX0_plainSeven 7 = .ok (.iload_n 0, 1) := by decide +kernel
theorem dX0_plainSeven_8 : decode cX0_plainSeven 8 = .ok (.goto 13, 3) := by decide +kernel
theorem dX0_plainSeven_11 : decode cX0_plainSeven 11 = .ok (.getstatic 22, 3) := by decide +kernel
theorem dX0_plainSeven_14 : decode cX0_plainSeven 14 = .ok (.getstatic 26, 3) := by decide +kernel
theorem dX0_plainSeven_17 : decode cX0_plainSeven 17 = .ok (.iload_n 0, 1) := by decide +kernel
theorem dX0_plainSeven_18 : decode cX0_plainSeven 18 = .ok (.invokestatic 29, 3) := by decide +kernel
theorem dX0_plainSeven_21 : decode cX0_plainSeven 21 = .ok (.ireturn, 1) := by decide +kernel
set_option maxRecDepth 20000 in
theorem ggX0_escapedSeven_X0_partner : GoodIn wsX0_escapedSeven wsX0_partner := goodIn_r _ [6] rfl (by decide +kernel)
set_option maxRecDepth 20000 in
theorem gX0_escapedSeven_X0_partner : GoodIn wsX0_escapedSeven (va_wsS RX0 29 yX0_partner wsX0_partner) := goodIn_app (goodIn_of _ (by decide +kernel)) ggX0_escapedSeven_X0_partner
theorem dX0_escapedSeven_0 : decode cX0_escapedSeven 0 = .ok (.getstatic 33, 3) := by decide +kernel
theorem dX0_escapedSeven_3 : decode cX0_escapedSeven 3 = .ok (.getstatic 36, 3) := by decide +kernel
theorem dX0_escapedSeven_6 : decode cX0_escapedSeven 6 = .ok (.iload_n 0, 1) := by decide +kernel
theorem dX0_escapedSeven_7 : decode cX0_escapedSeven 7 = .ok (.invokestatic 29, 3) := by decide +kernel
theorem dX0_escapedSeven_10 : decode cX0_escapedSeven 10 = .ok (.ireturn, 1) := by decide +kernel
set_option maxRecDepth 20000 in
theorem ggX0_plainUnit_X0_isItsOwnSeven : GoodIn wsX0_plainUnit wsX0_isItsOwnSeven := goodIn_r _ [6] rfl (by decide +kernel)
set_option maxRecDepth 20000 in
theorem gX0_plainUnit_X0_isItsOwnSeven : GoodIn wsX0_plainUnit (va_wsS RX0 18 yX0_isItsOwnSeven wsX0_isItsOwnSeven) := goodIn_app (goodIn_of _ (by decide +kernel)) ggX0_plainUnit_X0_isItsOwnSeven
set_option maxRecDepth 20000 in
theorem ggX0_plainUnit_X0_partner : GoodIn wsX0_plainUnit wsX0_partner := goodIn_r _ [9] rfl (by decide +kernel)
set_option maxRecDepth 20000 in
theorem gX0_plainUnit_X0_partner : GoodIn wsX0_plainUnit (va_wsS RX0 29 yX0_partner wsX0_partner) := goodIn_app (goodIn_of _ (by decide +kernel)) ggX0_plainUnit_X0_partner
theorem dX0_plainUnit_0 : decode cX0_plainUnit 0 = .ok (.iload_n 0, 1) := by decide +kernel
theorem dX0_plainUnit_1 : decode cX0_plainUnit 1 = .ok (.invokestatic 18, 3) := by decide +kernel
theorem dX0_plainUnit_4 : decode cX0_plainUnit 4 = .ok (.ifCond .eq 7, 3) := by decide +kernel
theorem dX0_plainUnit_7 : decode cX0_plainUnit 7 = .ok (.iload_n 0, 1) := by decide +kernel
theorem dX0_plainUnit_8 : decode cX0_plainUnit 8 = .ok (.goto 13, 3) := by decide +kernel
theorem dX0_plainUnit_11 : decode cX0_plainUnit 11 = .ok (.getstatic 26, 3) := by decide +kernel
theorem dX0_plainUnit_14 : decode cX0_plainUnit 14 = .ok (.getstatic 22, 3) := by decide +kernel
theorem dX0_plainUnit_17 : decode cX0_plainUnit 17 = .ok (.iload_n 0, 1) := by decide +kernel
theorem dX0_plainUnit_18 : decode cX0_plainUnit 18 = .ok (.invokestatic 29, 3) := by decide +kernel
theorem dX0_plainUnit_21 : decode cX0_plainUnit 21 = .ok (.istore_n 1, 1) := by decide +kernel
theorem dX0_plainUnit_22 : decode cX0_plainUnit 22 = .ok (.iload_n 1, 1) := by decide +kernel
theorem dX0_plainUnit_23 : decode cX0_plainUnit 23 = .ok (.iconst (-1), 1) := by decide +kernel
theorem dX0_plainUnit_24 : decode cX0_plainUnit 24 = .ok (.if_icmp .ne 8, 3) := by decide +kernel
theorem dX0_plainUnit_27 : decode cX0_plainUnit 27 = .ok (.bipush 63, 2) := by decide +kernel
theorem dX0_plainUnit_29 : decode cX0_plainUnit 29 = .ok (.goto 4, 3) := by decide +kernel
theorem dX0_plainUnit_32 : decode cX0_plainUnit 32 = .ok (.iload_n 1, 1) := by decide +kernel
theorem dX0_plainUnit_33 : decode cX0_plainUnit 33 = .ok (.ireturn, 1) := by decide +kernel
set_option maxRecDepth 20000 in
theorem ggX0_escapedUnit_X0_partner : GoodIn wsX0_escapedUnit wsX0_partner := goodIn_r _ [6] rfl (by decide +kernel)
set_option maxRecDepth 20000 in
theorem gX0_escapedUnit_X0_partner : GoodIn wsX0_escapedUnit (va_wsS RX0 29 yX0_partner wsX0_partner) := goodIn_app (goodIn_of _ (by decide +kernel)) ggX0_escapedUnit_X0_partner
set_option maxRecDepth 20000 in
theorem ggX0_escapedUnit_X0_plainUnit : GoodIn wsX0_escapedUnit wsX0_plainUnit := goodIn_r _ [9, 10, 11, 12, 13, 5, 14, 3, 4, 6] rfl (by decide +kernel)
set_option maxRecDepth 20000 in
theorem gX0_escapedUnit_X0_plainUnit : GoodIn wsX0_escapedUnit (va_wsS RX0 39 yX0_plainUnit wsX0_plainUnit) := goodIn_app (goodIn_of _ (by decide +kernel)) ggX0_escapedUnit_X0_plainUnit
theorem dX0_escapedUnit_0 : decode cX0_escapedUnit 0 = .ok (.iload_n 0, 1) := by decide +kernel
theorem dX0_escapedUnit_1 : decode cX0_escapedUnit 1 = .ok (.iconst (-1), 1) := by decide +kernel
theorem dX0_escapedUnit_2 : decode cX0_escapedUnit 2 = .ok (.if_icmp .ne 6, 3) := by decide +kernel
theorem dX0_escapedUnit_5 : decode cX0_escapedUnit 5 = .ok (.bipush 32, 2) := by decide +kernel
theorem dX0_escapedUnit_7 : decode cX0_escapedUnit 7 = .ok (.ireturn, 1) := by decide +kernel
theorem dX0_escapedUnit_8 : decode cX0_escapedUnit 8 = .ok (.getstatic 36, 3) := by decide +kernel
theorem dX0_escapedUnit_11 : decode cX0_escapedUnit 11 = .ok (.getstatic 33, 3) := by decide +kernel
theorem dX0_escapedUnit_14 : decode cX0_escapedUnit 14 = .ok (.iload_n 0, 1) := by decide +kernel
theorem dX0_escapedUnit_15 : decode cX0_escapedUnit 15 = .ok (.invokestatic 29, 3) := by decide +kernel
theorem dX0_escapedUnit_18 : decode cX0_escapedUnit 18 = .ok (.istore_n 1, 1) := by decide +kernel
theorem dX0_escapedUnit_19 : decode cX0_escapedUnit 19 = .ok (.iload_n 1, 1) := by decide +kernel
theorem dX0_escapedUnit_20 : decode cX0_escapedUnit 20 = .ok (.iconst (-1), 1) := by decide +kernel
theorem dX0_escapedUnit_21 : decode cX0_escapedUnit 21 = .ok (.if_icmp .ne 10, 3) := by decide +kernel
theorem dX0_escapedUnit_24 : decode cX0_escapedUnit 24 = .ok (.iload_n 0, 1) := by decide +kernel
theorem dX0_escapedUnit_25 : decode cX0_escapedUnit 25 = .ok (.invokestatic 39, 3) := by decide +kernel
theorem dX0_escapedUnit_28 : decode cX0_escapedUnit 28 = .ok (.goto 4, 3) := by decide +kernel
theorem dX0_escapedUnit_31 : decode cX0_escapedUnit 31 = .ok (.iload_n 1, 1) := by decide +kernel
theorem dX0_escapedUnit_32 : decode cX0_escapedUnit 32 = .ok (.ireturn, 1) := by decide +kernel
theorem dX0_isItsOwnSeven_0 : decode cX0_isItsOwnSeven 0 = .ok (.iload_n 0, 1) := by decide +kernel
theorem dX0_isItsOwnSeven_1 : decode cX0_isItsOwnSeven 1 = .ok (.bipush 36, 2) := by decide +kernel
theorem dX0_isItsOwnSeven_3 : decode cX0_isItsOwnSeven 3 = .ok (.if_icmp .eq 9, 3) := by decide +kernel
theorem dX0_isItsOwnSeven_6 : decode cX0_isItsOwnSeven 6 = .ok (.iload_n 0, 1) := by decide +kernel
theorem dX0_isItsOwnSeven_7 : decode cX0_isItsOwnSeven 7 = .ok (.bipush 64, 2) := by decide +kernel
theorem dX0_isItsOwnSeven_9 : decode cX0_isItsOwnSeven 9 = .ok (.if_icmp .ne 5, 3) := by decide +kernel
theorem dX0_isItsOwnSeven_12 : decode cX0_isItsOwnSeven 12 = .ok (.iconst 0, 1) := by decide +kernel
theorem dX0_isItsOwnSeven_13 : decode cX0_isItsOwnSeven 13 = .ok (.ireturn, 1) := by decide +kernel
theorem dX0_isItsOwnSeven_14 : decode cX0_isItsOwnSeven 14 = .ok (.iload_n 0, 1) := by decide +kernel
theorem dX0_isItsOwnSeven_15 : decode cX0_isItsOwnSeven 15 = .ok (.bipush 10, 2) := by decide +kernel
theorem dX0_isItsOwnSeven_17 : decode cX0_isItsOwnSeven 17 = .ok (.if_icmp .eq 33, 3) := by decide +kernel
theorem dX0_isItsOwnSeven_20 : decode cX0_isItsOwnSeven 20 = .ok (.iload_n 0, 1) := by decide +kernel
theorem dX0_isItsOwnSeven_21 : decode cX0_isItsOwnSeven 21 = .ok (.bipush 13, 2) := by decide +kernel
theorem dX0_isItsOwnSeven_23 : decode cX0_isItsOwnSeven 23 = .ok (.if_icmp .eq 27, 3) := by decide +kernel
theorem dX0_isItsOwnSeven_26 : decode cX0_isItsOwnSeven 26 = .ok (.iload_n 0, 1) := by decide +kernel
theorem dX0_isItsOwnSeven_27 : decode cX0_isItsOwnSeven 27 = .ok (.bipush 32, 2) := by decide +kernel
theorem dX0_isItsOwnSeven_29 : decode cX0_isItsOwnSeven 29 = .ok (.if_icmp .lt 9, 3) := by decide +kernel
theorem dX0_isItsOwnSeven_32 : decode cX0_isItsOwnSeven 32 = .ok (.iload_n 0, 1) := by decide +kernel
theorem dX0_isItsOwnSeven_33 : decode cX0_isItsOwnSeven 33 = .ok (.bipush 90, 2) := by decide +kernel
theorem dX0_isItsOwnSeven_35 : decode cX0_isItsOwnSeven 35 = .ok (.if_icmp .le 15, 3) := by decide +kernel
theorem dX0_isItsOwnSeven_38 : decode cX0_isItsOwnSeven 38 = .ok (.iload_n 0, 1) := by decide +kernel
theorem dX0_isItsOwnSeven_39 : decode cX0_isItsOwnSeven 39 = .ok (.bipush 97, 2) := by decide +kernel
theorem dX0_isItsOwnSeven_41 : decode cX0_isItsOwnSeven 41 = .ok (.if_icmp .lt 13, 3) := by decide +kernel
theorem dX0_isItsOwnSeven_44 : decode cX0_isItsOwnSeven 44 = .ok (.iload_n 0, 1) := by decide +kernel
theorem dX0_isItsOwnSeven_45 : decode cX0_isItsOwnSeven 45 = .ok (.bipush 122, 2) := by decide +kernel
theorem dX0_isItsOwnSeven_47 : decode cX0_isItsOwnSeven 47 = .ok (.if_icmp .gt 7, 3) := by decide +kernel
theorem dX0_isItsOwnSeven_50 : decode cX0_isItsOwnSeven 50 = .ok (.iconst 1, 1) := by decide +kernel
theorem dX0_isItsOwnSeven_51 : decode cX0_isItsOwnSeven 51 = .ok (.goto 4, 3) := by decide +kernel
theorem dX0_isItsOwnSeven_54 : decode cX0_isItsOwnSeven 54 = .ok (.iconst 0, 1) := by decide +kernel
theorem dX0_isItsOwnSeven_55 : decode cX0_isItsOwnSeven 55 = .ok (.ireturn, 1) := by decide +kernel
theorem dX0_partner_0 : decode cX0_partner 0 = .ok (.iconst 0, 1) := by decide +kernel
theorem dX0_partner_1 : decode cX0_partner 1 = .ok (.istore_n 3, 1) := by decide +kernel
theorem dX0_partner_2 : decode cX0_partner 2 = .ok (.iload_n 3, 1) := by decide +kernel
theorem dX0_partner_3 : decode cX0_partner 3 = .ok (.aload_n 0, 1) := by decide +kernel
theorem dX0_partner_4 : decode cX0_partner 4 = .ok (.arraylength, 1) := by decide +kernel
theorem dX0_partner_5 : decode cX0_partner 5 = .ok (.if_icmp .ge 26, 3) := by decide +kernel
theorem dX0_partner_8 : decode cX0_partner 8 = .ok (.iload_n 3, 1) := by decide +kernel
theorem dX0_partner_9 : decode cX0_partner 9 = .ok (.aload_n 1, 1) := by decide +kernel
theorem dX0_partner_10 : decode cX0_partner 10 = .ok (.arraylength, 1) := by decide +kernel
theorem dX0_partner_11 : decode cX0_partner 11 = .ok (.if_icmp .ge 20, 3) := by decide +kernel
theorem dX0_partner_14 : decode cX0_partner 14 = .ok (.aload_n 0, 1) := by decide +kernel
theorem dX0_partner_15 : decode cX0_partner 15 = .ok (.iload_n 3, 1) := by decide +kernel
theorem dX0_partner_16 : decode cX0_partner 16 = .ok (.iaload, 1) := by decide +kernel
theorem dX0_partner_17 : decode cX0_partner 17 = .ok (.iload_n 2, 1) := by decide +kernel
theorem dX0_partner_18 : decode cX0_partner 18 = .ok (.if_icmp .ne 7, 3) := by decide +kernel
theorem dX0_partner_21 : decode cX0_partner 21 = .ok (.aload_n 1, 1) := by decide +kernel
theorem dX0_partner_22 : decode cX0_partner 22 = .ok (.iload_n 3, 1) := by decide +kernel
theorem dX0_partner_23 : decode cX0_partner 23 = .ok (.iaload, 1) := by decide +kernel
theorem dX0_partner_24 : decode cX0_partner 24 = .ok (.ireturn, 1) := by decide +kernel
theorem dX0_partner_25 : decode cX0_partner 25 = .ok (.iinc 3 1, 3) := by decide +kernel
theorem dX0_partner_28 : decode cX0_partner 28 = .ok (.goto (-26), 3) := by decide +kernel
theorem dX0_partner_31 : decode cX0_partner 31 = .ok (.iconst (-1), 1) := by decide +kernel
theorem dX0_partner_32 : decode cX0_partner 32 = .ok (.ireturn, 1) := by decide +kernel
theorem dX5_init_0 : decode cX5_init 0 = .ok (.aload_n 0, 1) := by decide +kernel
theorem dX5_init_1 : decode cX5_init 1 = .ok (.invokespecial 1, 3) := by decide +kernel
theorem dX5_init_4 : decode cX5_init 4 = .ok (.aload_n 0, 1) := by decide +kernel
theorem dX5_init_5 : decode cX5_init 5 = .ok (.aload_n 1, 1) := by decide +kernel
theorem dX5_init_6 : decode cX5_init 6 = .ok (.putfield 7, 3) := by decide +kernel
theorem dX5_init_9 : decode cX5_init 9 = .ok (.return_, 1) := by decide +kernel
theorem dX6_init_0 : decode cX6_init 0 = .ok (.aload_n 0, 1) := by decide +kernel
theorem dX6_init_1 : decode cX6_init 1 = .ok (.invokespecial 3, 3) := by decide +kernel
theorem dX6_init_4 : decode cX6_init 4 = .ok (.aload_n 0, 1) := by decide +kernel
theorem dX6_init_5 : decode cX6_init 5 = .ok (.iload_n 1, 1) := by decide +kernel
theorem dX6_init_6 : decode cX6_init 6 = .ok (.newarray .int, 2) := by decide +kernel
theorem dX6_init_8 : decode cX6_init 8 = .ok (.putfield 9, 3) := by decide +kernel
theorem dX6_init_11 : decode cX6_init 11 = .ok (.return_, 1) := by decide +kernel
set_option maxRecDepth 20000 in
theorem ggX6_restart_J7_fill_53178 : GoodIn wsX6_restart wsJ7_fill_53178 := goodIn_r _ [13] rfl (by decide +kernel)
set_option maxRecDepth 20000 in
theorem gX6_restart_J7_fill_53178 : GoodIn wsX6_restart (va_wsS RX6 15 yJ7_fill_53178 wsJ7_fill_53178) := goodIn_app (goodIn_of _ (by decide +kernel)) ggX6_restart_J7_fill_53178
theorem dX6_restart_0 : decode cX6_restart 0 = .ok (.aload_n 0, 1) := by decide +kernel
theorem dX6_restart_1 : decode cX6_restart 1 = .ok (.getfield 9, 3) := by decide +kernel
theorem dX6_restart_4 : decode cX6_restart 4 = .ok (.iconst 0, 1) := by decide +kernel
theorem dX6_restart_5 : decode cX6_restart 5 = .ok (.invokestatic 15, 3) := by decide +kernel
theorem dX6_restart_8 : decode cX6_restart 8 = .ok (.aload_n 0, 1) := by decide +kernel
theorem dX6_restart_9 : decode cX6_restart 9 = .ok (.iconst 0, 1) := by decide +kernel
theorem dX6_restart_10 : decode cX6_restart 10 = .ok (.iload_n 1, 1) := by decide +kernel
theorem dX6_restart_11 : decode cX6_restart 11 = .ok (.aload_n 0, 1) := by decide +kernel
theorem dX6_restart_12 : decode cX6_restart 12 = .ok (.getfield 9, 3) := by decide +kernel
theorem dX6_restart_15 : decode cX6_restart 15 = .ok (.arraylength, 1) := by decide +kernel
theorem dX6_restart_16 : decode cX6_restart 16 = .ok (.invokestatic 21, 3) := by decide +kernel
theorem dX6_restart_19 : decode cX6_restart 19 = .ok (.invokestatic 27, 3) := by decide +kernel
theorem dX6_restart_22 : decode cX6_restart 22 = .ok (.putfield 30, 3) := by decide +kernel
theorem dX6_restart_25 : decode cX6_restart 25 = .ok (.return_, 1) := by decide +kernel
theorem dX6_append_0 : decode cX6_append 0 = .ok (.aload_n 0, 1) := by decide +kernel
theorem dX6_append_1 : decode cX6_append 1 = .ok (.getfield 30, 3) := by decide +kernel
theorem dX6_append_4 : decode cX6_append 4 = .ok (.aload_n 0, 1) := by decide +kernel
theorem dX6_append_5 : decode cX6_append 5 = .ok (.getfield 9, 3) := by decide +kernel
theorem dX6_append_8 : decode cX6_append 8 = .ok (.arraylength, 1) := by decide +kernel
theorem dX6_append_9 : decode cX6_append 9 = .ok (.if_icmp .ge 23, 3) := by decide +kernel
theorem dX6_append_12 : decode cX6_append 12 = .ok (.aload_n 0, 1) := by decide +kernel
theorem dX6_append_13 : decode cX6_append 13 = .ok (.getfield 9, 3) := by decide +kernel
theorem dX6_append_16 : decode cX6_append 16 = .ok (.aload_n 0, 1) := by decide +kernel
theorem dX6_append_17 : decode cX6_append 17 = .ok (.getfield 30, 3) := by decide +kernel
theorem dX6_append_20 : decode cX6_append 20 = .ok (.iload_n 1, 1) := by decide +kernel
theorem dX6_append_21 : decode cX6_append 21 = .ok (.iastore, 1) := by decide +kernel
theorem dX6_append_22 : decode cX6_append 22 = .ok (.aload_n 0, 1) := by decide +kernel
theorem dX6_append_23 : decode cX6_append 23 = .ok (.dup, 1) := by decide +kernel
theorem dX6_append_24 : decode cX6_append 24 = .ok (.getfield 30, 3) := by decide +kernel
theorem dX6_append_27 : decode cX6_append 27 = .ok (.iconst 1, 1) := by decide +kernel
theorem dX6_append_28 : decode cX6_append 28 = .ok (.iadd, 1) := by decide +kernel
theorem dX6_append_29 : decode cX6_append 29 = .ok (.putfield 30, 3) := by decide +kernel
theorem dX6_append_32 : decode cX6_append 32 = .ok (.return_, 1) := by decide +kernel
theorem dX6_byteAt_0 : decode cX6_byteAt 0 = .ok (.iload_n 1, 1) := by decide +kernel
theorem dX6_byteAt_1 : decode cX6_byteAt 1 = .ok (.ifCond .lt 20, 3) := by decide +kernel
theorem dX6_byteAt_4 : decode cX6_byteAt 4 = .ok (.iload_n 1, 1) := by decide +kernel
theorem dX6_byteAt_5 : decode cX6_byteAt 5 = .ok (.aload_n 0, 1) := by decide +kernel
theorem dX6_byteAt_6 : decode cX6_byteAt 6 = .ok (.getfield 30, 3) := by decide +kernel
theorem dX6_byteAt_9 : decode cX6_byteAt 9 = .ok (.if_icmp .ge 12, 3) := by decide +kernel
theorem dX6_byteAt_12 : decode cX6_byteAt 12 = .ok (.aload_n 0, 1) := by decide +kernel
theorem dX6_byteAt_13 : decode cX6_byteAt 13 = .ok (.getfield 9, 3) := by decide +kernel
theorem dX6_byteAt_16 : decode cX6_byteAt 16 = .ok (.iload_n 1, 1) := by decide +kernel
theorem dX6_byteAt_17 : decode cX6_byteAt 17 = .ok (.iaload, 1) := by decide +kernel
theorem dX6_byteAt_18 : decode cX6_byteAt 18 = .ok (.goto 4, 3) := by decide +kernel
theorem dX6_byteAt_21 : decode cX6_byteAt 21 = .ok (.iconst (-1), 1) := by decide +kernel
theorem dX6_byteAt_22 : decode cX6_byteAt 22 = .ok (.ireturn, 1) := by decide +kernel
theorem dX6_setByte_0 : decode cX6_setByte 0 = .ok (.iload_n 1, 1) := by decide +kernel
theorem dX6_setByte_1 : decode cX6_setByte 1 = .ok (.ifCond .lt 18, 3) := by decide +kernel
theorem dX6_setByte_4 : decode cX6_setByte 4 = .ok (.iload_n 1, 1) := by decide +kernel
theorem dX6_setByte_5 : decode cX6_setByte 5 = .ok (.aload_n 0, 1) := by decide +kernel
theorem dX6_setByte_6 : decode cX6_setByte 6 = .ok (.getfield 30, 3) := by decide +kernel
theorem dX6_setByte_9 : decode cX6_setByte 9 = .ok (.if_icmp .ge 10, 3) := by decide +kernel
theorem dX6_setByte_12 : decode cX6_setByte 12 = .ok (.aload_n 0, 1) := by decide +kernel
theorem dX6_setByte_13 : decode cX6_setByte 13 = .ok (.getfield 9, 3) := by decide +kernel
theorem dX6_setByte_16 : decode cX6_setByte 16 = .ok (.iload_n 1, 1) := by decide +kernel
theorem dX6_setByte_17 : decode cX6_setByte 17 = .ok (.iload_n 2, 1) := by decide +kernel
theorem dX6_setByte_18 : decode cX6_setByte 18 = .ok (.iastore, 1) := by decide +kernel
theorem dX6_setByte_19 : decode cX6_setByte 19 = .ok (.return_, 1) := by decide +kernel
set_option maxRecDepth 20000 in
theorem ggX6_sevenAt_X6_byteOrZero : GoodIn wsX6_sevenAt wsX6_byteOrZero := goodIn_r _ [5, 6, 7, 8, 9, 10, 11, 12, 4, 13, 14, 15, 16, 17] rfl (by decide +kernel)
set_option maxRecDepth 20000 in
theorem gX6_sevenAt_X6_byteOrZero : GoodIn wsX6_sevenAt (wsV RX6 34 RX6 yX6_byteOrZero wsX6_byteOrZero) := goodIn_app (goodIn_of _ (by decide +kernel)) ggX6_sevenAt_X6_byteOrZero
theorem dX6_sevenAt_0 : decode cX6_sevenAt 0 = .ok (.iconst 2, 1) := by decide +kernel
theorem dX6_sevenAt_1 : decode cX6_sevenAt 1 = .ok (.bipush 7, 2) := by decide +kernel
theorem dX6_sevenAt_3 : decode cX6_sevenAt 3 = .ok (.iload_n 1, 1) := by decide +kernel
theorem dX6_sevenAt_4 : decode cX6_sevenAt 4 = .ok (.imul, 1) := by decide +kernel
theorem dX6_sevenAt_5 : decode cX6_sevenAt 5 = .ok (.bipush 8, 2) := by decide +kernel
theorem dX6_sevenAt_7 : decode cX6_sevenAt 7 = .ok (.idiv, 1) := by decide +kernel
theorem dX6_sevenAt_8 : decode cX6_sevenAt 8 = .ok (.iadd, 1) := by decide +kernel
theorem dX6_sevenAt_9 : decode cX6_sevenAt 9 = .ok (.istore_n 2, 1) := by decide +kernel
theorem dX6_sevenAt_10 : decode cX6_sevenAt 10 = .ok (.aload_n 0, 1) := by decide +kernel
theorem dX6_sevenAt_11 : decode cX6_sevenAt 11 = .ok (.iload_n 2, 1) := by decide +kernel
theorem dX6_sevenAt_12 : decode cX6_sevenAt 12 = .ok (.invokevirtual 34, 3) := by decide +kernel
theorem dX6_sevenAt_15 : decode cX6_sevenAt 15 = .ok (.aload_n 0, 1) := by decide +kernel
theorem dX6_sevenAt_16 : decode cX6_sevenAt 16 = .ok (.iload_n 2, 1) := by decide +kernel
theorem dX6_sevenAt_17 : decode cX6_sevenAt 17 = .ok (.iconst 1, 1) := by decide +kernel
theorem dX6_sevenAt_18 : decode cX6_sevenAt 18 = .ok (.iadd, 1) := by decide +kernel
theorem dX6_sevenAt_19 : decode cX6_sevenAt 19 = .ok (.invokevirtual 34, 3) := by decide +kernel
theorem dX6_sevenAt_22 : decode cX6_sevenAt 22 = .ok (.bipush 8, 2) := by decide +kernel
theorem dX6_sevenAt_24 : decode cX6_sevenAt 24 = .ok (.ishl, 1) := by decide +kernel
theorem dX6_sevenAt_25 : decode cX6_sevenAt 25 = .ok (.ior, 1) := by decide +kernel
theorem dX6_sevenAt_26 : decode cX6_sevenAt 26 = .ok (.istore_n 3, 1) := by decide +kernel
theorem dX6_sevenAt_27 : decode cX6_sevenAt 27 = .ok (.iload_n 3, 1) := by decide +kernel
theorem dX6_sevenAt_28 : decode cX6_sevenAt 28 = .ok (.bipush 7, 2) := by decide +kernel
theorem dX6_sevenAt_30 : decode cX6_sevenAt 30 = .ok (.iload_n 1, 1) := by decide +kernel
theorem dX6_sevenAt_31 : decode cX6_sevenAt 31 = .ok (.imul, 1) := by decide +kernel
theorem dX6_sevenAt_32 : decode cX6_sevenAt 32 = .ok (.bipush 8, 2) := by decide +kernel
theorem dX6_sevenAt_34 : decode cX6_sevenAt 34 = .ok (.irem, 1) := by decide +kernel
theorem dX6_sevenAt_35 : decode cX6_sevenAt 35 = .ok (.ishr, 1) := by decide +kernel
theorem dX6_sevenAt_36 : decode cX6_sevenAt 36 = .ok (.bipush 127, 2) := by decide +kernel
theorem dX6_sevenAt_38 : decode cX6_sevenAt 38 = .ok (.iand, 1) := by decide +kernel
theorem dX6_sevenAt_39 : decode cX6_sevenAt 39 = .ok (.ireturn, 1) := by decide +kernel
set_option maxRecDepth 20000 in
theorem ggX6_addSeven_X6_byteOrZero : GoodIn wsX6_addSeven wsX6_byteOrZero := goodIn_r _ [5, 6, 7, 8, 9, 10, 11, 12, 4, 13, 14, 15, 20, 21] rfl (by decide +kernel)
set_option maxRecDepth 20000 in
theorem gX6_addSeven_X6_byteOrZero : GoodIn wsX6_addSeven (wsV RX6 34 RX6 yX6_byteOrZero wsX6_byteOrZero) := goodIn_app (goodIn_of _ (by decide +kernel)) ggX6_addSeven_X6_byteOrZero
set_option maxRecDepth 20000 in
theorem ggX6_addSeven_X6_setByte : GoodIn wsX6_addSeven wsX6_setByte := goodIn_r _ [19, 14, 15, 20, 21] rfl (by decide +kernel)
set_option maxRecDepth 20000 in
theorem gX6_addSeven_X6_setByte : GoodIn wsX6_addSeven (wsV RX6 38 RX6 yX6_setByte wsX6_setByte) := goodIn_app (goodIn_of _ (by decide +kernel)) ggX6_addSeven_X6_setByte
theorem dX6_addSeven_0 : decode cX6_addSeven 0 = .ok (.iconst 2, 1) := by decide +kernel
theorem dX6_addSeven_1 : decode cX6_addSeven 1 = .ok (.bipush 7, 2) := by decide +kernel
theorem dX6_addSeven_3 : decode cX6_addSeven 3 = .ok (.iload_n 1, 1) := by decide +kernel
theorem dX6_addSeven_4 : decode cX6_addSeven 4 = .ok (.imul, 1) := by decide +kernel
theorem dX6_addSeven_5 : decode cX6_addSeven 5 = .ok (.bipush 8, 2) := by decide +kernel
theorem dX6_addSeven_7 : decode cX6_addSeven 7 = .ok (.idiv, 1) := by decide +kernel
theorem dX6_addSeven_8 : decode cX6_addSeven 8 = .ok (.iadd, 1) := by decide +kernel
theorem dX6_addSeven_9 : decode cX6_addSeven 9 = .ok (.istore_n 3, 1) := by decide +kernel
theorem dX6_addSeven_10 : decode cX6_addSeven 10 = .ok (.iload_n 2, 1) := by decide +kernel
theorem dX6_addSeven_11 : decode cX6_addSeven 11 = .ok (.bipush 7, 2) := by decide +kernel
theorem dX6_addSeven_13 : decode cX6_addSeven 13 = .ok (.iload_n 1, 1) := by decide +kernel
theorem dX6_addSeven_14 : decode cX6_addSeven 14 = .ok (.imul, 1) := by decide +kernel
theorem dX6_addSeven_15 : decode cX6_addSeven 15 = .ok (.bipush 8, 2) := by decide +kernel
theorem dX6_addSeven_17 : decode cX6_addSeven 17 = .ok (.irem, 1) := by decide +kernel
theorem dX6_addSeven_18 : decode cX6_addSeven 18 = .ok (.ishl, 1) := by decide +kernel
theorem dX6_addSeven_19 : decode cX6_addSeven 19 = .ok (.istore 4, 2) := by decide +kernel
theorem dX6_addSeven_21 : decode cX6_addSeven 21 = .ok (.aload_n 0, 1) := by decide +kernel
theorem dX6_addSeven_22 : decode cX6_addSeven 22 = .ok (.iload_n 3, 1) := by decide +kernel
theorem dX6_addSeven_23 : decode cX6_addSeven 23 = .ok (.aload_n 0, 1) := by decide +kernel
theorem dX6_addSeven_24 : decode cX6_addSeven 24 = .ok (.iload_n 3, 1) := by decide +kernel
theorem dX6_addSeven_25 : decode cX6_addSeven 25 = .ok (.invokevirtual 34, 3) := by decide +kernel
theorem dX6_addSeven_28 : decode cX6_addSeven 28 = .ok (.iload 4, 2) := by decide +kernel
theorem dX6_addSeven_30 : decode cX6_addSeven 30 = .ok (.sipush 255, 3) := by decide +kernel
theorem dX6_addSeven_33 : decode cX6_addSeven 33 = .ok (.iand, 1) := by decide +kernel
theorem dX6_addSeven_34 : decode cX6_addSeven 34 = .ok (.ior, 1) := by decide +kernel
theorem dX6_addSeven_35 : decode cX6_addSeven 35 = .ok (.invokevirtual 38, 3) := by decide +kernel
theorem dX6_addSeven_38 : decode cX6_addSeven 38 = .ok (.aload_n 0, 1) := by decide +kernel
theorem dX6_addSeven_39 : decode cX6_addSeven 39 = .ok (.iload_n 3, 1) := by decide +kernel
theorem dX6_addSeven_40 : decode cX6_addSeven 40 = .ok (.iconst 1, 1) := by decide +kernel
theorem dX6_addSeven_41 : decode cX6_addSeven 41 = .ok (.iadd, 1) := by decide +kernel
theorem dX6_addSeven_42 : decode cX6_addSeven 42 = .ok (.aload_n 0, 1) := by decide +kernel
theorem dX6_addSeven_43 : decode cX6_addSeven 43 = .ok (.iload_n 3, 1) := by decide +kernel
theorem dX6_addSeven_44 : decode cX6_addSeven 44 = .ok (.iconst 1, 1) := by decide +kernel
theorem dX6_addSeven_45 : decode cX6_addSeven 45 = .ok (.iadd, 1) := by decide +kernel
theorem dX6_addSeven_46 : decode cX6_addSeven 46 = .ok (.invokevirtual 34, 3) := by decide +kernel
theorem dX6_addSeven_49 : decode cX6_addSeven 49 = .ok (.iload 4, 2) := by decide +kernel
theorem dX6_addSeven_51 : decode cX6_addSeven 51 = .ok (.bipush 8, 2) := by decide +kernel
theorem dX6_addSeven_53 : decode cX6_addSeven 53 = .ok (.ishr, 1) := by decide +kernel
theorem dX6_addSeven_54 : decode cX6_addSeven 54 = .ok (.ior, 1) := by decide +kernel
theorem dX6_addSeven_55 : decode cX6_addSeven 55 = .ok (.invokevirtual 38, 3) := by decide +kernel
theorem dX6_addSeven_58 : decode cX6_addSeven 58 = .ok (.return_, 1) := by decide +kernel
set_option maxRecDepth 20000 in
theorem ggX6_isBitSet_X6_byteOrZero : GoodIn wsX6_isBitSet wsX6_byteOrZero := goodIn_r _ [5, 6, 7, 8, 9, 10, 11, 12, 4, 13, 14, 15, 16, 17] rfl (by decide +kernel)
set_option maxRecDepth 20000 in
theorem gX6_isBitSet_X6_byteOrZero : GoodIn wsX6_isBitSet (wsV RX6 34 RX6 yX6_byteOrZero wsX6_byteOrZero) := goodIn_app (goodIn_of _ (by decide +kernel)) ggX6_isBitSet_X6_byteOrZero
theorem dX6_isBitSet_0 : decode cX6_isBitSet 0 = .ok (.aload_n 0, 1) := by decide +kernel
theorem dX6_isBitSet_1 : decode cX6_isBitSet 1 = .ok (.iconst 2, 1) := by decide +kernel
theorem dX6_isBitSet_2 : decode cX6_isBitSet 2 = .ok (.iload_n 1, 1) := by decide +kernel
theorem dX6_isBitSet_3 : decode cX6_isBitSet 3 = .ok (.bipush 8, 2) := by decide +kernel
theorem dX6_isBitSet_5 : decode cX6_isBitSet 5 = .ok (.idiv, 1) := by decide +kernel
theorem dX6_isBitSet_6 : decode cX6_isBitSet 6 = .ok (.iadd, 1) := by decide +kernel
theorem dX6_isBitSet_7 : decode cX6_isBitSet 7 = .ok (.invokevirtual 34, 3) := by decide +kernel
theorem dX6_isBitSet_10 : decode cX6_isBitSet 10 = .ok (.iload_n 1, 1) := by decide +kernel
theorem dX6_isBitSet_11 : decode cX6_isBitSet 11 = .ok (.bipush 8, 2) := by decide +kernel
theorem dX6_isBitSet_13 : decode cX6_isBitSet 13 = .ok (.irem, 1) := by decide +kernel
theorem dX6_isBitSet_14 : decode cX6_isBitSet 14 = .ok (.ishr, 1) := by decide +kernel
theorem dX6_isBitSet_15 : decode cX6_isBitSet 15 = .ok (.iconst 1, 1) := by decide +kernel
theorem dX6_isBitSet_16 : decode cX6_isBitSet 16 = .ok (.iand, 1) := by decide +kernel
theorem dX6_isBitSet_17 : decode cX6_isBitSet 17 = .ok (.iconst 1, 1) := by decide +kernel
theorem dX6_isBitSet_18 : decode cX6_isBitSet 18 = .ok (.if_icmp .ne 7, 3) := by decide +kernel
theorem dX6_isBitSet_21 : decode cX6_isBitSet 21 = .ok (.iconst 1, 1) := by decide +kernel
theorem dX6_isBitSet_22 : decode cX6_isBitSet 22 = .ok (.goto 4, 3) := by decide +kernel
theorem dX6_isBitSet_25 : decode cX6_isBitSet 25 = .ok (.iconst 0, 1) := by decide +kernel
theorem dX6_isBitSet_26 : decode cX6_isBitSet 26 = .ok (.ireturn, 1) := by decide +kernel
set_option maxRecDepth 20000 in
theorem ggX6_byteOrZero_X6_byteAt : GoodIn wsX6_byteOrZero wsX6_byteAt := goodIn_r _ [9, 10, 11, 12, 13] rfl (by decide +kernel)
set_option maxRecDepth 20000 in
theorem gX6_byteOrZero_X6_byteAt : GoodIn wsX6_byteOrZero (wsV RX6 42 RX6 yX6_byteAt wsX6_byteAt) := goodIn_app (goodIn_of _ (by decide +kernel)) ggX6_byteOrZero_X6_byteAt
theorem dX6_byteOrZero_0 : decode cX6_byteOrZero 0 = .ok (.iconst 0, 1) := by decide +kernel
theorem dX6_byteOrZero_1 : decode cX6_byteOrZero 1 = .ok (.aload_n 0, 1) := by decide +kernel
theorem dX6_byteOrZero_2 : decode cX6_byteOrZero 2 = .ok (.iload_n 1, 1) := by decide +kernel
theorem dX6_byteOrZero_3 : decode cX6_byteOrZero 3 = .ok (.invokevirtual 42, 3) := by decide +kernel
theorem dX6_byteOrZero_6 : decode cX6_byteOrZero 6 = .ok (.invokestatic 27, 3) := by decide +kernel
theorem dX6_byteOrZero_9 : decode cX6_byteOrZero 9 = .ok (.ireturn, 1) := by decide +kernel
theorem dX7_init_0 : decode cX7_init 0 = .ok (.aload_n 0, 1) := by decide +kernel
theorem dX7_init_1 : decode cX7_init 1 = .ok (.invokespecial 3, 3) := by decide +kernel
theorem dX7_init_4 : decode cX7_init 4 = .ok (.aload_n 0, 1) := by decide +kernel
theorem dX7_init_5 : decode cX7_init 5 = .ok (.sipush 3000, 3) := by decide +kernel
theorem dX7_init_8 : decode cX7_init 8 = .ok (.newarray .int, 2) := by decide +kernel
theorem dX7_init_10 : decode cX7_init 10 = .ok (.putfield 9, 3) := by decide +kernel
theorem dX7_init_13 : decode cX7_init 13 = .ok (.return_, 1) := by decide +kernel
set_option maxRecDepth 20000 in
theorem ggX7_append_X0_sevensFor : GoodIn wsX7_append wsX0_sevensFor := goodIn_r _ [8, 9, 10, 7, 11, 12, 13, 14, 15, 16, 17, 18, 19, 20, 21, 22, 23, 24] rfl (by decide +kernel)
set_option maxRecDepth 20000 in
theorem gX7_append_X0_sevensFor : GoodIn wsX7_append (va_wsS RX7 19 yX0_sevensFor wsX0_sevensFor) := goodIn_app (goodIn_of _ (by decide +kernel)) ggX7_append_X0_sevensFor
theorem dX7_append_0 : decode cX7_append 0 = .ok (.aload_n 0, 1) := by decide +kernel
theorem dX7_append_1 : decode cX7_append 1 = .ok (.getfield 15, 3) := by decide +kernel
theorem dX7_append_4 : decode cX7_append 4 = .ok (.aload_n 0, 1) := by decide +kernel
theorem dX7_append_5 : decode cX7_append 5 = .ok (.getfield 9, 3) := by decide +kernel
theorem dX7_append_8 : decode cX7_append 8 = .ok (.arraylength, 1) := by decide +kernel
theorem dX7_append_9 : decode cX7_append 9 = .ok (.if_icmp .lt 4, 3) := by decide +kernel
theorem dX7_append_12 : decode cX7_append 12 = .ok (.return_, 1) := by decide +kernel
theorem dX7_append_13 : decode cX7_append 13 = .ok (.aload_n 0, 1) := by decide +kernel
theorem dX7_append_14 : decode cX7_append 14 = .ok (.getfield 9, 3) := by decide +kernel
theorem dX7_append_17 : decode cX7_append 17 = .ok (.aload_n 0, 1) := by decide +kernel
theorem dX7_append_18 : decode cX7_append 18 = .ok (.getfield 15, 3) := by decide +kernel
theorem dX7_append_21 : decode cX7_append 21 = .ok (.iload_n 1, 1) := by decide +kernel
theorem dX7_append_22 : decode cX7_append 22 = .ok (.iastore, 1) := by decide +kernel
theorem dX7_append_23 : decode cX7_append 23 = .ok (.aload_n 0, 1) := by decide +kernel
theorem dX7_append_24 : decode cX7_append 24 = .ok (.dup, 1) := by decide +kernel
theorem dX7_append_25 : decode cX7_append 25 = .ok (.getfield 15, 3) := by decide +kernel
theorem dX7_append_28 : decode cX7_append 28 = .ok (.iconst 1, 1) := by decide +kernel
theorem dX7_append_29 : decode cX7_append 29 = .ok (.iadd, 1) := by decide +kernel
theorem dX7_append_30 : decode cX7_append 30 = .ok (.putfield 15, 3) := by decide +kernel
theorem dX7_append_33 : decode cX7_append 33 = .ok (.iload_n 1, 1) := by decide +kernel
theorem dX7_append_34 : decode cX7_append 34 = .ok (.invokestatic 19, 3) := by decide +kernel
theorem dX7_append_37 : decode cX7_append 37 = .ok (.istore_n 2, 1) := by decide +kernel
theorem dX7_append_38 : decode cX7_append 38 = .ok (.aload_n 0, 1) := by decide +kernel
theorem dX7_append_39 : decode cX7_append 39 = .ok (.dup, 1) := by decide +kernel
theorem dX7_append_40 : decode cX7_append 40 = .ok (.getfield 25, 3) := by decide +kernel
theorem dX7_append_43 : decode cX7_append 43 = .ok (.iload_n 2, 1) := by decide +kernel
theorem dX7_append_44 : decode cX7_append 44 = .ok (.iadd, 1) := by decide +kernel
theorem dX7_append_45 : decode cX7_append 45 = .ok (.putfield 25, 3) := by decide +kernel
theorem dX7_append_48 : decode cX7_append 48 = .ok (.iload_n 2, 1) := by decide +kernel
theorem dX7_append_49 : decode cX7_append 49 = .ok (.ifCond .ne 13, 3) := by decide +kernel
theorem dX7_append_52 : decode cX7_append 52 = .ok (.aload_n 0, 1) := by decide +kernel
theorem dX7_append_53 : decode cX7_append 53 = .ok (.dup, 1) := by decide +kernel
theorem dX7_append_54 : decode cX7_append 54 = .ok (.getfield 28, 3) := by decide +kernel
theorem dX7_append_57 : decode cX7_append 57 = .ok (.iconst 1, 1) := by decide +kernel
theorem dX7_append_58 : decode cX7_append 58 = .ok (.iadd, 1) := by decide +kernel
theorem dX7_append_59 : decode cX7_append 59 = .ok (.putfield 28, 3) := by decide +kernel
theorem dX7_append_62 : decode cX7_append 62 = .ok (.return_, 1) := by decide +kernel
theorem dX7_empty_0 : decode cX7_empty 0 = .ok (.aload_n 0, 1) := by decide +kernel
theorem dX7_empty_1 : decode cX7_empty 1 = .ok (.iconst 0, 1) := by decide +kernel
theorem dX7_empty_2 : decode cX7_empty 2 = .ok (.putfield 15, 3) := by decide +kernel
theorem dX7_empty_5 : decode cX7_empty 5 = .ok (.aload_n 0, 1) := by decide +kernel
theorem dX7_empty_6 : decode cX7_empty 6 = .ok (.iconst 0, 1) := by decide +kernel
theorem dX7_empty_7 : decode cX7_empty 7 = .ok (.putfield 25, 3) := by decide +kernel
theorem dX7_empty_10 : decode cX7_empty 10 = .ok (.aload_n 0, 1) := by decide +kernel
theorem dX7_empty_11 : decode cX7_empty 11 = .ok (.iconst 0, 1) := by decide +kernel
theorem dX7_empty_12 : decode cX7_empty 12 = .ok (.putfield 28, 3) := by decide +kernel
theorem dX7_empty_15 : decode cX7_empty 15 = .ok (.return_, 1) := by decide +kernel
theorem dX7_inAlphabet_0 : decode cX7_inAlphabet 0 = .ok (.aload_n 0, 1) := by decide +kernel
theorem dX7_inAlphabet_1 : decode cX7_inAlphabet 1 = .ok (.getfield 28, 3) := by decide +kernel
theorem dX7_inAlphabet_4 : decode cX7_inAlphabet 4 = .ok (.ifCond .ne 7, 3) := by decide +kernel
theorem dX7_inAlphabet_7 : decode cX7_inAlphabet 7 = .ok (.iconst 1, 1) := by decide +kernel
theorem dX7_inAlphabet_8 : decode cX7_inAlphabet 8 = .ok (.goto 4, 3) := by decide +kernel
theorem dX7_inAlphabet_11 : decode cX7_inAlphabet 11 = .ok (.iconst 0, 1) := by decide +kernel
theorem dX7_inAlphabet_12 : decode cX7_inAlphabet 12 = .ok (.ireturn, 1) := by decide +kernel
set_option maxRecDepth 20000 in
theorem ggX7_partCount_X7_fitsAlone : GoodIn wsX7_partCount wsX7_fitsAlone := goodIn_r _ [6, 7, 1, 8, 9, 10, 5, 11, 12, 60, 61, 62, 63] rfl (by decide +kernel)
set_option maxRecDepth 20000 in
theorem gX7_partCount_X7_fitsAlone : GoodIn wsX7_partCount (wsV RX7 31 RX7 yX7_fitsAlone wsX7_fitsAlone) := goodIn_app (goodIn_of _ (by decide +kernel)) ggX7_partCount_X7_fitsAlone
set_option maxRecDepth 20000 in
theorem ggX7_partCount_X7_partEnd : GoodIn wsX7_partCount wsX7_partEnd := goodIn_r _ [16, 8, 9, 10, 5, 11, 12, 17, 18, 19, 20, 1, 21, 22, 23, 24, 25, 26, 27, 28, 29, 30, 31, 32, 33, 34, 35, 36, 37, 38, 39, 40, 41, 42, 43, 44, 45, 46, 47, 48, 49, 50, 51, 52, 53, 54, 55, 56, 57, 58, 59, 60, 61, 62, 63] rfl (by decide +kernel)
set_option maxRecDepth 20000 in
theorem gX7_partCount_X7_partEnd : GoodIn wsX7_partCount (wsV RX7 35 RX7 yX7_partEnd wsX7_partEnd) := goodIn_app (goodIn_of _ (by decide +kernel)) ggX7_partCount_X7_partEnd
theorem dX7_partCount_0 : decode cX7_partCount 0 = .ok (.aload_n 0, 1) := by decide +kernel
theorem dX7_partCount_1 : decode cX7_partCount 1 = .ok (.invokevirtual 31, 3) := by decide +kernel
theorem dX7_partCount_4 : decode cX7_partCount 4 = .ok (.ifCond .eq 5, 3) := by decide +kernel
theorem dX7_partCount_7 : decode cX7_partCount 7 = .ok (.iconst 1, 1) := by decide +kernel
theorem dX7_partCount_8 : decode cX7_partCount 8 = .ok (.ireturn, 1) := by decide +kernel
theorem dX7_partCount_9 : decode cX7_partCount 9 = .ok (.iconst 0, 1) := by decide +kernel
theorem dX7_partCount_10 : decode cX7_partCount 10 = .ok (.istore_n 1, 1) := by decide +kernel
theorem dX7_partCount_11 : decode cX7_partCount 11 = .ok (.iconst 0, 1) := by decide +kernel
theorem dX7_partCount_12 : decode cX7_partCount 12 = .ok (.istore_n 2, 1) := by decide +kernel
theorem dX7_partCount_13 : decode cX7_partCount 13 = .ok (.iload_n 2, 1) := by decide +kernel
theorem dX7_partCount_14 : decode cX7_partCount 14 = .ok (.sipush 255, 3) := by decide +kernel
theorem dX7_partCount_17 : decode cX7_partCount 17 = .ok (.if_icmp .gt 25, 3) := by decide +kernel
theorem dX7_partCount_20 : decode cX7_partCount 20 = .ok (.iload_n 1, 1) := by decide +kernel
theorem dX7_partCount_21 : decode cX7_partCount 21 = .ok (.aload_n 0, 1) := by decide +kernel
theorem dX7_partCount_22 : decode cX7_partCount 22 = .ok (.getfield 15, 3) := by decide +kernel
theorem dX7_partCount_25 : decode cX7_partCount 25 = .ok (.if_icmp .lt 5, 3) := by decide +kernel
theorem dX7_partCount_28 : decode cX7_partCount 28 = .ok (.iload_n 2, 1) := by decide +kernel
theorem dX7_partCount_29 : decode cX7_partCount 29 = .ok (.ireturn, 1) := by decide +kernel
theorem dX7_partCount_30 : decode cX7_partCount 30 = .ok (.aload_n 0, 1) := by decide +kernel
theorem dX7_partCount_31 : decode cX7_partCount 31 = .ok (.iload_n 1, 1) := by decide +kernel
theorem dX7_partCount_32 : decode cX7_partCount 32 = .ok (.invokevirtual 35, 3) := by decide +kernel
theorem dX7_partCount_35 : decode cX7_partCount 35 = .ok (.istore_n 1, 1) := by decide +kernel
theorem dX7_partCount_36 : decode cX7_partCount 36 = .ok (.iinc 2 1, 3) := by decide +kernel
theorem dX7_partCount_39 : decode cX7_partCount 39 = .ok (.goto (-26), 3) := by decide +kernel
theorem dX7_partCount_42 : decode cX7_partCount 42 = .ok (.iconst 0, 1) := by decide +kernel
theorem dX7_partCount_43 : decode cX7_partCount 43 = .ok (.ireturn, 1) := by decide +kernel
set_option maxRecDepth 20000 in
theorem ggX7_partEnd_X7_inAlphabet : GoodIn wsX7_partEnd wsX7_inAlphabet := goodIn_r _ [5, 6, 51, 52, 53, 54] rfl (by decide +kernel)
set_option maxRecDepth 20000 in
theorem gX7_partEnd_X7_inAlphabet : GoodIn wsX7_partEnd (wsV RX7 38 RX7 yX7_inAlphabet wsX7_inAlphabet) := goodIn_app (goodIn_of _ (by decide +kernel)) ggX7_partEnd_X7_inAlphabet
set_option maxRecDepth 20000 in
theorem ggX7_partEnd_X7_sevensEnd : GoodIn wsX7_partEnd wsX7_sevensEnd := goodIn_r _ [10, 11, 12, 13, 14, 4, 15, 16, 17, 18, 19, 20, 21, 22, 23, 24, 25, 26, 27, 28, 29, 30, 31, 32, 33, 34, 35, 36, 51, 52, 53, 54] rfl (by decide +kernel)
set_option maxRecDepth 20000 in
theorem gX7_partEnd_X7_sevensEnd : GoodIn wsX7_partEnd (wsV RX7 41 RX7 yX7_sevensEnd wsX7_sevensEnd) := goodIn_app (goodIn_of _ (by decide +kernel)) ggX7_partEnd_X7_sevensEnd
set_option maxRecDepth 20000 in
theorem ggX7_partEnd_X7_pairsEnd : GoodIn wsX7_partEnd wsX7_pairsEnd := goodIn_r _ [40, 11, 12, 13, 14, 4, 15, 16, 41, 42, 43, 44, 45, 46, 47, 48, 49, 50, 51, 52, 53, 54] rfl (by decide +kernel)
set_option maxRecDepth 20000 in
theorem gX7_partEnd_X7_pairsEnd : GoodIn wsX7_partEnd (wsV RX7 44 RX7 yX7_pairsEnd wsX7_pairsEnd) := goodIn_app (goodIn_of _ (by decide +kernel)) ggX7_partEnd_X7_pairsEnd
theorem dX7_partEnd_0 : decode cX7_partEnd 0 = .ok (.aload_n 0, 1) := by decide +kernel
theorem dX7_partEnd_1 : decode cX7_partEnd 1 = .ok (.invokevirtual 38, 3) := by decide +kernel
theorem dX7_partEnd_4 : decode cX7_partEnd 4 = .ok (.ifCond .eq 11, 3) := by decide +kernel
theorem dX7_partEnd_7 : decode cX7_partEnd 7 = .ok (.aload_n 0, 1) := by decide +kernel
theorem dX7_partEnd_8 : decode cX7_partEnd 8 = .ok (.iload_n 1, 1) := by decide +kernel
theorem dX7_partEnd_9 : decode cX7_partEnd 9 = .ok (.invokevirtual 41, 3) := by decide +kernel
theorem dX7_partEnd_12 : decode cX7_partEnd 12 = .ok (.goto 8, 3) := by decide +kernel
theorem dX7_partEnd_15 : decode cX7_partEnd 15 = .ok (.aload_n 0, 1) := by decide +kernel
theorem dX7_partEnd_16 : decode cX7_partEnd 16 = .ok (.iload_n 1, 1) := by decide +kernel
theorem dX7_partEnd_17 : decode cX7_partEnd 17 = .ok (.invokevirtual 44, 3) := by decide +kernel
theorem dX7_partEnd_20 : decode cX7_partEnd 20 = .ok (.ireturn, 1) := by decide +kernel
set_option maxRecDepth 20000 in
theorem ggX7_sevensBetween_X7_unitAt : GoodIn wsX7_sevensBetween wsX7_unitAt := goodIn_r _ [5, 6, 7, 28, 29, 30, 31] rfl (by decide +kernel)
set_option maxRecDepth 20000 in
theorem gX7_sevensBetween_X7_unitAt : GoodIn wsX7_sevensBetween (wsV RX7 47 RX7 yX7_unitAt wsX7_unitAt) := goodIn_app (goodIn_of _ (by decide +kernel)) ggX7_sevensBetween_X7_unitAt
set_option maxRecDepth 20000 in
theorem ggX7_sevensBetween_X0_sevensFor : GoodIn wsX7_sevensBetween wsX0_sevensFor := goodIn_r _ [11, 12, 13, 10, 14, 15, 16, 17, 18, 19, 20, 21, 22, 23, 24, 25, 26, 27] rfl (by decide +kernel)
set_option maxRecDepth 20000 in
theorem gX7_sevensBetween_X0_sevensFor : GoodIn wsX7_sevensBetween (va_wsS RX7 19 yX0_sevensFor wsX0_sevensFor) := goodIn_app (goodIn_of _ (by decide +kernel)) ggX7_sevensBetween_X0_sevensFor
theorem dX7_sevensBetween_0 : decode cX7_sevensBetween 0 = .ok (.iconst 0, 1) := by decide +kernel
theorem dX7_sevensBetween_1 : decode cX7_sevensBetween 1 = .ok (.istore_n 3, 1) := by decide +kernel
theorem dX7_sevensBetween_2 : decode cX7_sevensBetween 2 = .ok (.iload_n 1, 1) := by decide +kernel
theorem dX7_sevensBetween_3 : decode cX7_sevensBetween 3 = .ok (.istore 4, 2) := by decide +kernel
theorem dX7_sevensBetween_5 : decode cX7_sevensBetween 5 = .ok (.iload 4, 2) := by decide +kernel
theorem dX7_sevensBetween_7 : decode cX7_sevensBetween 7 = .ok (.iload_n 2, 1) := by decide +kernel
theorem dX7_sevensBetween_8 : decode cX7_sevensBetween 8 = .ok (.if_icmp .ge 21, 3) := by decide +kernel
theorem dX7_sevensBetween_11 : decode cX7_sevensBetween 11 = .ok (.iload_n 3, 1) := by decide +kernel
theorem dX7_sevensBetween_12 : decode cX7_sevensBetween 12 = .ok (.aload_n 0, 1) := by decide +kernel
theorem dX7_sevensBetween_13 : decode cX7_sevensBetween 13 = .ok (.iload 4, 2) := by decide +kernel
theorem dX7_sevensBetween_15 : decode cX7_sevensBetween 15 = .ok (.invokevirtual 47, 3) := by decide +kernel
theorem dX7_sevensBetween_18 : decode cX7_sevensBetween 18 = .ok (.invokestatic 19, 3) := by decide +kernel
theorem dX7_sevensBetween_21 : decode cX7_sevensBetween 21 = .ok (.iadd, 1) := by decide +kernel
theorem dX7_sevensBetween_22 : decode cX7_sevensBetween 22 = .ok (.istore_n 3, 1) := by decide +kernel
theorem dX7_sevensBetween_23 : decode cX7_sevensBetween 23 = .ok (.iinc 4 1, 3) := by decide +kernel
theorem dX7_sevensBetween_26 : decode cX7_sevensBetween 26 = .ok (.goto (-21), 3) := by decide +kernel
theorem dX7_sevensBetween_29 : decode cX7_sevensBetween 29 = .ok (.iload_n 3, 1) := by decide +kernel
theorem dX7_sevensBetween_30 : decode cX7_sevensBetween 30 = .ok (.ireturn, 1) := by decide +kernel
theorem dX7_unitAt_0 : decode cX7_unitAt 0 = .ok (.iload_n 1, 1) := by decide +kernel
theorem dX7_unitAt_1 : decode cX7_unitAt 1 = .ok (.ifCond .lt 20, 3) := by decide +kernel
theorem dX7_unitAt_4 : decode cX7_unitAt 4 = .ok (.iload_n 1, 1) := by decide +kernel
theorem dX7_unitAt_5 : decode cX7_unitAt 5 = .ok (.aload_n 0, 1) := by decide +kernel
theorem dX7_unitAt_6 : decode cX7_unitAt 6 = .ok (.getfield 15, 3) := by decide +kernel
theorem dX7_unitAt_9 : decode cX7_unitAt 9 = .ok (.if_icmp .ge 12, 3) := by decide +kernel
theorem dX7_unitAt_12 : decode cX7_unitAt 12 = .ok (.aload_n 0, 1) := by decide +kernel
theorem dX7_unitAt_13 : decode cX7_unitAt 13 = .ok (.getfield 9, 3) := by decide +kernel
theorem dX7_unitAt_16 : decode cX7_unitAt 16 = .ok (.iload_n 1, 1) := by decide +kernel
theorem dX7_unitAt_17 : decode cX7_unitAt 17 = .ok (.iaload, 1) := by decide +kernel
theorem dX7_unitAt_18 : decode cX7_unitAt 18 = .ok (.goto 4, 3) := by decide +kernel
theorem dX7_unitAt_21 : decode cX7_unitAt 21 = .ok (.iconst (-1), 1) := by decide +kernel
theorem dX7_unitAt_22 : decode cX7_unitAt 22 = .ok (.ireturn, 1) := by decide +kernel
set_option maxRecDepth 20000 in
theorem ggX7_fitsAlone_X7_inAlphabet : GoodIn wsX7_fitsAlone wsX7_inAlphabet := goodIn_r _ [7, 8, 9, 10, 11, 12] rfl (by decide +kernel)
set_option maxRecDepth 20000 in
theorem gX7_fitsAlone_X7_inAlphabet : GoodIn wsX7_fitsAlone (wsV RX7 38 RX7 yX7_inAlphabet wsX7_inAlphabet) := goodIn_app (goodIn_of _ (by decide +kernel)) ggX7_fitsAlone_X7_inAlphabet
theorem dX7_fitsAlone_0 : decode cX7_fitsAlone 0 = .ok (.aload_n 0, 1) := by decide +kernel
theorem dX7_fitsAlone_1 : decode cX7_fitsAlone 1 = .ok (.invokevirtual 38, 3) := by decide +kernel
theorem dX7_fitsAlone_4 : decode cX7_fitsAlone 4 = .ok (.ifCond .eq 21, 3) := by decide +kernel
theorem dX7_fitsAlone_7 : decode cX7_fitsAlone 7 = .ok (.aload_n 0, 1) := by decide +kernel
theorem dX7_fitsAlone_8 : decode cX7_fitsAlone 8 = .ok (.getfield 25, 3) := by decide +kernel
theorem dX7_fitsAlone_11 : decode cX7_fitsAlone 11 = .ok (.sipush 160, 3) := by decide +kernel
theorem dX7_fitsAlone_14 : decode cX7_fitsAlone 14 = .ok (.if_icmp .gt 7, 3) := by decide +kernel
theorem dX7_fitsAlone_17 : decode cX7_fitsAlone 17 = .ok (.iconst 1, 1) := by decide +kernel
theorem dX7_fitsAlone_18 : decode cX7_fitsAlone 18 = .ok (.goto 24, 3) := by decide +kernel
theorem dX7_fitsAlone_21 : decode cX7_fitsAlone 21 = .ok (.iconst 0, 1) := by decide +kernel
theorem dX7_fitsAlone_22 : decode cX7_fitsAlone 22 = .ok (.goto 20, 3) := by decide +kernel
theorem dX7_fitsAlone_25 : decode cX7_fitsAlone 25 = .ok (.iconst 2, 1) := by decide +kernel
theorem dX7_fitsAlone_26 : decode cX7_fitsAlone 26 = .ok (.aload_n 0, 1) := by decide +kernel
theorem dX7_fitsAlone_27 : decode cX7_fitsAlone 27 = .ok (.getfield 15, 3) := by decide +kernel
theorem dX7_fitsAlone_30 : decode cX7_fitsAlone 30 = .ok (.imul, 1) := by decide +kernel
theorem dX7_fitsAlone_31 : decode cX7_fitsAlone 31 = .ok (.sipush 140, 3) := by decide +kernel
theorem dX7_fitsAlone_34 : decode cX7_fitsAlone 34 = .ok (.if_icmp .gt 7, 3) := by decide +kernel
theorem dX7_fitsAlone_37 : decode cX7_fitsAlone 37 = .ok (.iconst 1, 1) := by decide +kernel
theorem dX7_fitsAlone_38 : decode cX7_fitsAlone 38 = .ok (.goto 4, 3) := by decide +kernel
theorem dX7_fitsAlone_41 : decode cX7_fitsAlone 41 = .ok (.iconst 0, 1) := by decide +kernel
theorem dX7_fitsAlone_42 : decode cX7_fitsAlone 42 = .ok (.ireturn, 1) := by decide +kernel
set_option maxRecDepth 20000 in
theorem ggX7_sevensEnd_X7_unitAt : GoodIn wsX7_sevensEnd wsX7_unitAt := goodIn_r _ [6, 1, 7, 28, 29, 30, 31] rfl (by decide +kernel)
set_option maxRecDepth 20000 in
theorem gX7_sevensEnd_X7_unitAt : GoodIn wsX7_sevensEnd (wsV RX7 47 RX7 yX7_unitAt wsX7_unitAt) := goodIn_app (goodIn_of _ (by decide +kernel)) ggX7_sevensEnd_X7_unitAt
set_option maxRecDepth 20000 in
theorem ggX7_sevensEnd_X0_sevensFor : GoodIn wsX7_sevensEnd wsX0_sevensFor := goodIn_r _ [11, 12, 13, 10, 14, 15, 16, 17, 18, 19, 20, 21, 22, 23, 24, 25, 26, 27] rfl (by decide +kernel)
set_option maxRecDepth 20000 in
theorem gX7_sevensEnd_X0_sevensFor : GoodIn wsX7_sevensEnd (va_wsS RX7 19 yX0_sevensFor wsX0_sevensFor) := goodIn_app (goodIn_of _ (by decide +kernel)) ggX7_sevensEnd_X0_sevensFor
theorem dX7_sevensEnd_0 : decode cX7_sevensEnd 0 = .ok (.sipush 153, 3) := by decide +kernel
theorem dX7_sevensEnd_3 : decode cX7_sevensEnd 3 = .ok (.istore_n 2, 1) := by decide +kernel
theorem dX7_sevensEnd_4 : decode cX7_sevensEnd 4 = .ok (.iload_n 1, 1) := by decide +kernel
theorem dX7_sevensEnd_5 : decode cX7_sevensEnd 5 = .ok (.istore_n 3, 1) := by decide +kernel
theorem dX7_sevensEnd_6 : decode cX7_sevensEnd 6 = .ok (.iload_n 3, 1) := by decide +kernel
theorem dX7_sevensEnd_7 : decode cX7_sevensEnd 7 = .ok (.aload_n 0, 1) := by decide +kernel
theorem dX7_sevensEnd_8 : decode cX7_sevensEnd 8 = .ok (.getfield 15, 3) := by decide +kernel
theorem dX7_sevensEnd_11 : decode cX7_sevensEnd 11 = .ok (.if_icmp .ge 26, 3) := by decide +kernel
theorem dX7_sevensEnd_14 : decode cX7_sevensEnd 14 = .ok (.iload_n 2, 1) := by decide +kernel
theorem dX7_sevensEnd_15 : decode cX7_sevensEnd 15 = .ok (.aload_n 0, 1) := by decide +kernel
theorem dX7_sevensEnd_16 : decode cX7_sevensEnd 16 = .ok (.iload_n 3, 1) := by decide +kernel
theorem dX7_sevensEnd_17 : decode cX7_sevensEnd 17 = .ok (.invokevirtual 47, 3) := by decide +kernel
theorem dX7_sevensEnd_20 : decode cX7_sevensEnd 20 = .ok (.invokestatic 19, 3) := by decide +kernel
theorem dX7_sevensEnd_23 : decode cX7_sevensEnd 23 = .ok (.isub, 1) := by decide +kernel
theorem dX7_sevensEnd_24 : decode cX7_sevensEnd 24 = .ok (.istore_n 2, 1) := by decide +kernel
theorem dX7_sevensEnd_25 : decode cX7_sevensEnd 25 = .ok (.iload_n 2, 1) := by decide +kernel
theorem dX7_sevensEnd_26 : decode cX7_sevensEnd 26 = .ok (.ifCond .ge 5, 3) := by decide +kernel
theorem dX7_sevensEnd_29 : decode cX7_sevensEnd 29 = .ok (.iload_n 3, 1) := by decide +kernel
theorem dX7_sevensEnd_30 : decode cX7_sevensEnd 30 = .ok (.ireturn, 1) := by decide +kernel
theorem dX7_sevensEnd_31 : decode cX7_sevensEnd 31 = .ok (.iinc 3 1, 3) := by decide +kernel
theorem dX7_sevensEnd_34 : decode cX7_sevensEnd 34 = .ok (.goto (-28), 3) := by decide +kernel
theorem dX7_sevensEnd_37 : decode cX7_sevensEnd 37 = .ok (.aload_n 0, 1) := by decide +kernel
theorem dX7_sevensEnd_38 : decode cX7_sevensEnd 38 = .ok (.getfield 15, 3) := by decide +kernel
theorem dX7_sevensEnd_41 : decode cX7_sevensEnd 41 = .ok (.ireturn, 1) := by decide +kernel
set_option maxRecDepth 20000 in
theorem ggX7_pairsEnd_X7_unitAt : GoodIn wsX7_pairsEnd wsX7_unitAt := goodIn_r _ [6, 1, 7, 18, 19, 20, 21] rfl (by decide +kernel)
set_option maxRecDepth 20000 in
theorem gX7_pairsEnd_X7_unitAt : GoodIn wsX7_pairsEnd (wsV RX7 47 RX7 yX7_unitAt wsX7_unitAt) := goodIn_app (goodIn_of _ (by decide +kernel)) ggX7_pairsEnd_X7_unitAt
set_option maxRecDepth 20000 in
theorem ggX7_pairsEnd_X7_isHigh : GoodIn wsX7_pairsEnd wsX7_isHigh := goodIn_r _ [10, 11, 12] rfl (by decide +kernel)
set_option maxRecDepth 20000 in
theorem gX7_pairsEnd_X7_isHigh : GoodIn wsX7_pairsEnd (va_wsS RX7 50 yX7_isHigh wsX7_isHigh) := goodIn_app (goodIn_of _ (by decide +kernel)) ggX7_pairsEnd_X7_isHigh
set_option maxRecDepth 20000 in
theorem ggX7_pairsEnd_X7_isLow : GoodIn wsX7_pairsEnd wsX7_isLow := goodIn_r _ [15, 16, 17] rfl (by decide +kernel)
set_option maxRecDepth 20000 in
theorem gX7_pairsEnd_X7_isLow : GoodIn wsX7_pairsEnd (va_wsS RX7 54 yX7_isLow wsX7_isLow) := goodIn_app (goodIn_of _ (by decide +kernel)) ggX7_pairsEnd_X7_isLow
theorem dX7_pairsEnd_0 : decode cX7_pairsEnd 0 = .ok (.iload_n 1, 1) := by decide +kernel
theorem dX7_pairsEnd_1 : decode cX7_pairsEnd 1 = .ok (.bipush 67, 2) := by decide +kernel
theorem dX7_pairsEnd_3 : decode cX7_pairsEnd 3 = .ok (.iadd, 1) := by decide +kernel
theorem dX7_pairsEnd_4 : decode cX7_pairsEnd 4 = .ok (.istore_n 2, 1) := by decide +kernel
theorem dX7_pairsEnd_5 : decode cX7_pairsEnd 5 = .ok (.iload_n 2, 1) := by decide +kernel
theorem dX7_pairsEnd_6 : decode cX7_pairsEnd 6 = .ok (.aload_n 0, 1) := by decide +kernel
theorem dX7_pairsEnd_7 : decode cX7_pairsEnd 7 = .ok (.getfield 15, 3) := by decide +kernel
theorem dX7_pairsEnd_10 : decode cX7_pairsEnd 10 = .ok (.if_icmp .lt 8, 3) := by decide +kernel
theorem dX7_pairsEnd_13 : decode cX7_pairsEnd 13 = .ok (.aload_n 0, 1) := by decide +kernel
theorem dX7_pairsEnd_14 : decode cX7_pairsEnd 14 = .ok (.getfield 15, 3) := by decide +kernel
theorem dX7_pairsEnd_17 : decode cX7_pairsEnd 17 = .ok (.ireturn, 1) := by decide +kernel
theorem dX7_pairsEnd_18 : decode cX7_pairsEnd 18 = .ok (.aload_n 0, 1) := by decide +kernel
theorem dX7_pairsEnd_19 : decode cX7_pairsEnd 19 = .ok (.iload_n 2, 1) := by decide +kernel
theorem dX7_pairsEnd_20 : decode cX7_pairsEnd 20 = .ok (.iconst 1, 1) := by decide +kernel
theorem dX7_pairsEnd_21 : decode cX7_pairsEnd 21 = .ok (.isub, 1) := by decide +kernel
theorem dX7_pairsEnd_22 : decode cX7_pairsEnd 22 = .ok (.invokevirtual 47, 3) := by decide +kernel
theorem dX7_pairsEnd_25 : decode cX7_pairsEnd 25 = .ok (.invokestatic 50, 3) := by decide +kernel
theorem dX7_pairsEnd_28 : decode cX7_pairsEnd 28 = .ok (.ifCond .eq 20, 3) := by decide +kernel
theorem dX7_pairsEnd_31 : decode cX7_pairsEnd 31 = .ok (.aload_n 0, 1) := by decide +kernel
theorem dX7_pairsEnd_32 : decode cX7_pairsEnd 32 = .ok (.iload_n 2, 1) := by decide +kernel
theorem dX7_pairsEnd_33 : decode cX7_pairsEnd 33 = .ok (.invokevirtual 47, 3) := by decide +kernel
theorem dX7_pairsEnd_36 : decode cX7_pairsEnd 36 = .ok (.invokestatic 54, 3) := by decide +kernel
theorem dX7_pairsEnd_39 : decode cX7_pairsEnd 39 = .ok (.ifCond .eq 9, 3) := by decide +kernel
theorem dX7_pairsEnd_42 : decode cX7_pairsEnd 42 = .ok (.iload_n 2, 1) := by decide +kernel
theorem dX7_pairsEnd_43 : decode cX7_pairsEnd 43 = .ok (.iconst 1, 1) := by decide +kernel
theorem dX7_pairsEnd_44 : decode cX7_pairsEnd 44 = .ok (.isub, 1) := by decide +kernel
theorem dX7_pairsEnd_45 : decode cX7_pairsEnd 45 = .ok (.goto 4, 3) := by decide +kernel
theorem dX7_pairsEnd_48 : decode cX7_pairsEnd 48 = .ok (.iload_n 2, 1) := by decide +kernel
theorem dX7_pairsEnd_49 : decode cX7_pairsEnd 49 = .ok (.ireturn, 1) := by decide +kernel
theorem dX7_isHigh_0 : decode cX7_isHigh 0 = .ok (.iload_n 0, 1) := by decide +kernel
theorem dX7_isHigh_1 : decode cX7_isHigh 1 = .ok (.ldc 57, 2) := by decide +kernel
theorem dX7_isHigh_3 : decode cX7_isHigh 3 = .ok (.if_icmp .lt 13, 3) := by decide +kernel
theorem dX7_isHigh_6 : decode cX7_isHigh 6 = .ok (.iload_n 0, 1) := by decide +kernel
theorem dX7_isHigh_7 : decode cX7_isHigh 7 = .ok (.ldc 58, 2) := by decide +kernel
theorem dX7_isHigh_9 : decode cX7_isHigh 9 = .ok (.if_icmp .gt 7, 3) := by decide +kernel
theorem dX7_isHigh_12 : decode cX7_isHigh 12 = .ok (.iconst 1, 1) := by decide +kernel
theorem dX7_isHigh_13 : decode cX7_isHigh 13 = .ok (.goto 4, 3) := by decide +kernel
theorem dX7_isHigh_16 : decode cX7_isHigh 16 = .ok (.iconst 0, 1) := by decide +kernel
theorem dX7_isHigh_17 : decode cX7_isHigh 17 = .ok (.ireturn, 1) := by decide +kernel
theorem dX7_isLow_0 : decode cX7_isLow 0 = .ok (.iload_n 0, 1) := by decide +kernel
theorem dX7_isLow_1 : decode cX7_isLow 1 = .ok (.ldc 59, 2) := by decide +kernel
theorem dX7_isLow_3 : decode cX7_isLow 3 = .ok (.if_icmp .lt 13, 3) := by decide +kernel
theorem dX7_isLow_6 : decode cX7_isLow 6 = .ok (.iload_n 0, 1) := by decide +kernel
theorem dX7_isLow_7 : decode cX7_isLow 7 = .ok (.ldc 60, 2) := by decide +kernel
theorem dX7_isLow_9 : decode cX7_isLow 9 = .ok (.if_icmp .gt 7, 3) := by decide +kernel
theorem dX7_isLow_12 : decode cX7_isLow 12 = .ok (.iconst 1, 1) := by decide +kernel
theorem dX7_isLow_13 : decode cX7_isLow 13 = .ok (.goto 4, 3) := by decide +kernel
theorem dX7_isLow_16 : decode cX7_isLow 16 = .ok (.iconst 0, 1) := by decide +kernel
theorem dX7_isLow_17 : decode cX7_isLow 17 = .ok (.ireturn, 1) := by decide +kernel
theorem dJ7_fill_53178_0 : decode cJ7_fill_53178 0 = .ok (.iconst 0, 1) := by decide +kernel
theorem dJ7_fill_53178_1 : decode cJ7_fill_53178 1 = .ok (.istore_n 2, 1) := by decide +kernel
theorem dJ7_fill_53178_2 : decode cJ7_fill_53178 2 = .ok (.aload_n 0, 1) := by decide +kernel
theorem dJ7_fill_53178_3 : decode cJ7_fill_53178 3 = .ok (.arraylength, 1) := by decide +kernel
theorem dJ7_fill_53178_4 : decode cJ7_fill_53178 4 = .ok (.istore_n 3, 1) := by decide +kernel
theorem dJ7_fill_53178_5 : decode cJ7_fill_53178 5 = .ok (.iload_n 2, 1) := by decide +kernel
theorem dJ7_fill_53178_6 : decode cJ7_fill_53178 6 = .ok (.iload_n 3, 1) := by decide +kernel
theorem dJ7_fill_53178_7 : decode cJ7_fill_53178 7 = .ok (.if_icmp .ge 13, 3) := by decide +kernel
theorem dJ7_fill_53178_10 : decode cJ7_fill_53178 10 = .ok (.aload_n 0, 1) := by decide +kernel
theorem dJ7_fill_53178_11 : decode cJ7_fill_53178 11 = .ok (.iload_n 2, 1) := by decide +kernel
theorem dJ7_fill_53178_12 : decode cJ7_fill_53178 12 = .ok (.iload_n 1, 1) := by decide +kernel
theorem dJ7_fill_53178_13 : decode cJ7_fill_53178 13 = .ok (.iastore, 1) := by decide +kernel
theorem dJ7_fill_53178_14 : decode cJ7_fill_53178 14 = .ok (.iinc 2 1, 3) := by decide +kernel
theorem dJ7_fill_53178_17 : decode cJ7_fill_53178 17 = .ok (.goto (-12), 3) := by decide +kernel
theorem dJ7_fill_53178_20 : decode cJ7_fill_53178 20 = .ok (.return_, 1) := by decide +kernel
theorem dJ7_copyOf_59c91_0 : decode cJ7_copyOf_59c91 0 = .ok (.iload_n 1, 1) := by decide +kernel
theorem dJ7_copyOf_59c91_1 : decode cJ7_copyOf_59c91 1 = .ok (.aload_n 0, 1) := by decide +kernel
theorem dJ7_copyOf_59c91_2 : decode cJ7_copyOf_59c91 2 = .ok (.arraylength, 1) := by decide +kernel
theorem dJ7_copyOf_59c91_3 : decode cJ7_copyOf_59c91 3 = .ok (.if_icmp .ne 11, 3) := by decide +kernel
theorem dJ7_copyOf_59c91_6 : decode cJ7_copyOf_59c91 6 = .ok (.aload_n 0, 1) := by decide +kernel
theorem dJ7_copyOf_59c91_7 : decode cJ7_copyOf_59c91 7 = .ok (.invokevirtual 316, 3) := by decide +kernel
theorem dJ7_copyOf_59c91_10 : decode cJ7_copyOf_59c91 10 = .ok (.checkcast 317, 3) := by decide +kernel
theorem dJ7_copyOf_59c91_13 : decode cJ7_copyOf_59c91 13 = .ok (.areturn, 1) := by decide +kernel
theorem dJ7_copyOf_59c91_14 : decode cJ7_copyOf_59c91 14 = .ok (.iload_n 1, 1) := by decide +kernel
theorem dJ7_copyOf_59c91_15 : decode cJ7_copyOf_59c91 15 = .ok (.newarray .int, 2) := by decide +kernel
theorem dJ7_copyOf_59c91_17 : decode cJ7_copyOf_59c91 17 = .ok (.astore_n 2, 1) := by decide +kernel
theorem dJ7_copyOf_59c91_18 : decode cJ7_copyOf_59c91 18 = .ok (.aload_n 0, 1) := by decide +kernel
theorem dJ7_copyOf_59c91_19 : decode cJ7_copyOf_59c91 19 = .ok (.iconst 0, 1) := by decide +kernel
theorem dJ7_copyOf_59c91_20 : decode cJ7_copyOf_59c91 20 = .ok (.aload_n 2, 1) := by decide +kernel
theorem dJ7_copyOf_59c91_21 : decode cJ7_copyOf_59c91 21 = .ok (.iconst 0, 1) := by decide +kernel
theorem dJ7_copyOf_59c91_22 : decode cJ7_copyOf_59c91 22 = .ok (.aload_n 0, 1) := by decide +kernel
theorem dJ7_copyOf_59c91_23 : decode cJ7_copyOf_59c91 23 = .ok (.arraylength, 1) := by decide +kernel
theorem dJ7_copyOf_59c91_24 : decode cJ7_copyOf_59c91 24 = .ok (.iload_n 1, 1) := by decide +kernel
theorem dJ7_copyOf_59c91_25 : decode cJ7_copyOf_59c91 25 = .ok (.invokestatic 304, 3) := by decide +kernel
theorem dJ7_copyOf_59c91_28 : decode cJ7_copyOf_59c91 28 = .ok (.invokestatic 150, 3) := by decide +kernel
theorem dJ7_copyOf_59c91_31 : decode cJ7_copyOf_59c91 31 = .ok (.aload_n 2, 1) := by decide +kernel
theorem dJ7_copyOf_59c91_32 : decode cJ7_copyOf_59c91 32 = .ok (.areturn, 1) := by decide +kernel
theorem dJ9_max_7cf53_0 : decode cJ9_max_7cf53 0 = .ok (.iload_n 0, 1) := by decide +kernel
theorem dJ9_max_7cf53_1 : decode cJ9_max_7cf53 1 = .ok (.iload_n 1, 1) := by decide +kernel
theorem dJ9_max_7cf53_2 : decode cJ9_max_7cf53 2 = .ok (.if_icmp .lt 7, 3) := by decide +kernel
theorem dJ9_max_7cf53_5 : decode cJ9_max_7cf53 5 = .ok (.iload_n 0, 1) := by decide +kernel
theorem dJ9_max_7cf53_6 : decode cJ9_max_7cf53 6 = .ok (.goto 4, 3) := by decide +kernel
theorem dJ9_max_7cf53_9 : decode cJ9_max_7cf53 9 = .ok (.iload_n 1, 1) := by decide +kernel
theorem dJ9_max_7cf53_10 : decode cJ9_max_7cf53 10 = .ok (.ireturn, 1) := by decide +kernel
theorem dJ9_min_7cf53_0 : decode cJ9_min_7cf53 0 = .ok (.iload_n 0, 1) := by decide +kernel
theorem dJ9_min_7cf53_1 : decode cJ9_min_7cf53 1 = .ok (.iload_n 1, 1) := by decide +kernel
theorem dJ9_min_7cf53_2 : decode cJ9_min_7cf53 2 = .ok (.if_icmp .gt 7, 3) := by decide +kernel
theorem dJ9_min_7cf53_5 : decode cJ9_min_7cf53 5 = .ok (.iload_n 0, 1) := by decide +kernel
theorem dJ9_min_7cf53_6 : decode cJ9_min_7cf53 6 = .ok (.goto 4, 3) := by decide +kernel
theorem dJ9_min_7cf53_9 : decode cJ9_min_7cf53 9 = .ok (.iload_n 1, 1) := by decide +kernel
theorem dJ9_min_7cf53_10 : decode cJ9_min_7cf53 10 = .ok (.ireturn, 1) := by decide +kernel

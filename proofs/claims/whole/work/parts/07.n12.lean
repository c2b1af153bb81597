theorem dX1_init_0 : decode cX1_init 0 = .ok (.aload_n 0, 1) := by decide +kernel
theorem dX1_init_1 : decode cX1_init 1 = .ok (.invokespecial 3, 3) := by decide +kernel
theorem dX1_init_4 : decode cX1_init 4 = .ok (.aload_n 0, 1) := by decide +kernel
theorem dX1_init_5 : decode cX1_init 5 = .ok (.iload_n 1, 1) := by decide +kernel
theorem dX1_init_6 : decode cX1_init 6 = .ok (.putfield 9, 3) := by decide +kernel
theorem dX1_init_9 : decode cX1_init 9 = .ok (.aload_n 0, 1) := by decide +kernel
theorem dX1_init_10 : decode cX1_init 10 = .ok (.iload_n 2, 1) := by decide +kernel
theorem dX1_init_11 : decode cX1_init 11 = .ok (.putfield 15, 3) := by decide +kernel
theorem dX1_init_14 : decode cX1_init 14 = .ok (.aload_n 0, 1) := by decide +kernel
theorem dX1_init_15 : decode cX1_init 15 = .ok (.iconst 0, 1) := by decide +kernel
theorem dX1_init_16 : decode cX1_init 16 = .ok (.iload_n 3, 1) := by decide +kernel
theorem dX1_init_17 : decode cX1_init 17 = .ok (.invokestatic 18, 3) := by decide +kernel
theorem dX1_init_20 : decode cX1_init 20 = .ok (.anewarray 24, 3) := by decide +kernel
theorem dX1_init_23 : decode cX1_init 23 = .ok (.putfield 26, 3) := by decide +kernel
theorem dX1_init_26 : decode cX1_init 26 = .ok (.return_, 1) := by decide +kernel
theorem dX1_isOf_0 : decode cX1_isOf 0 = .ok (.aload_n 0, 1) := by decide +kernel
theorem dX1_isOf_1 : decode cX1_isOf 1 = .ok (.getfield 9, 3) := by decide +kernel
theorem dX1_isOf_4 : decode cX1_isOf 4 = .ok (.iload_n 1, 1) := by decide +kernel
theorem dX1_isOf_5 : decode cX1_isOf 5 = .ok (.if_icmp .ne 24, 3) := by decide +kernel
theorem dX1_isOf_8 : decode cX1_isOf 8 = .ok (.aload_n 0, 1) := by decide +kernel
theorem dX1_isOf_9 : decode cX1_isOf 9 = .ok (.getfield 15, 3) := by decide +kernel
theorem dX1_isOf_12 : decode cX1_isOf 12 = .ok (.iload_n 2, 1) := by decide +kernel
theorem dX1_isOf_13 : decode cX1_isOf 13 = .ok (.if_icmp .ne 16, 3) := by decide +kernel
theorem dX1_isOf_16 : decode cX1_isOf 16 = .ok (.aload_n 0, 1) := by decide +kernel
theorem dX1_isOf_17 : decode cX1_isOf 17 = .ok (.getfield 26, 3) := by decide +kernel
theorem dX1_isOf_20 : decode cX1_isOf 20 = .ok (.arraylength, 1) := by decide +kernel
theorem dX1_isOf_21 : decode cX1_isOf 21 = .ok (.iload_n 3, 1) := by decide +kernel
theorem dX1_isOf_22 : decode cX1_isOf 22 = .ok (.if_icmp .ne 7, 3) := by decide +kernel
theorem dX1_isOf_25 : decode cX1_isOf 25 = .ok (.iconst 1, 1) := by decide +kernel
theorem dX1_isOf_26 : decode cX1_isOf 26 = .ok (.goto 4, 3) := by decide +kernel
theorem dX1_isOf_29 : decode cX1_isOf 29 = .ok (.iconst 0, 1) := by decide +kernel
theorem dX1_isOf_30 : decode cX1_isOf 30 = .ok (.ireturn, 1) := by decide +kernel
theorem dX1_isWhole_0 : decode cX1_isWhole 0 = .ok (.aload_n 0, 1) := by decide +kernel
theorem dX1_isWhole_1 : decode cX1_isWhole 1 = .ok (.getfield 30, 3) := by decide +kernel
theorem dX1_isWhole_4 : decode cX1_isWhole 4 = .ok (.aload_n 0, 1) := by decide +kernel
theorem dX1_isWhole_5 : decode cX1_isWhole 5 = .ok (.getfield 26, 3) := by decide +kernel
theorem dX1_isWhole_8 : decode cX1_isWhole 8 = .ok (.arraylength, 1) := by decide +kernel
theorem dX1_isWhole_9 : decode cX1_isWhole 9 = .ok (.if_icmp .ne 7, 3) := by decide +kernel
theorem dX1_isWhole_12 : decode cX1_isWhole 12 = .ok (.iconst 1, 1) := by decide +kernel
theorem dX1_isWhole_13 : decode cX1_isWhole 13 = .ok (.goto 4, 3) := by decide +kernel
theorem dX1_isWhole_16 : decode cX1_isWhole 16 = .ok (.iconst 0, 1) := by decide +kernel
theorem dX1_isWhole_17 : decode cX1_isWhole 17 = .ok (.ireturn, 1) := by decide +kernel
set_option maxRecDepth 20000 in
theorem ggX1_add_X5_init : GoodIn wsX1_add wsX5_init := goodIn_r _ [9, 10, 11, 12, 13, 20] rfl (by decide +kernel)
set_option maxRecDepth 20000 in
theorem gX1_add_X5_init : GoodIn wsX1_add (wsX5_init) := ggX1_add_X5_init
theorem dX1_add_0 : decode cX1_add 0 = .ok (.iload_n 1, 1) := by decide +kernel
theorem dX1_add_1 : decode cX1_add 1 = .ok (.iconst 1, 1) := by decide +kernel
theorem dX1_add_2 : decode cX1_add 2 = .ok (.if_icmp .lt 23, 3) := by decide +kernel
theorem dX1_add_5 : decode cX1_add 5 = .ok (.iload_n 1, 1) := by decide +kernel
theorem dX1_add_6 : decode cX1_add 6 = .ok (.aload_n 0, 1) := by decide +kernel
theorem dX1_add_7 : decode cX1_add 7 = .ok (.getfield 26, 3) := by decide +kernel
theorem dX1_add_10 : decode cX1_add 10 = .ok (.arraylength, 1) := by decide +kernel
theorem dX1_add_11 : decode cX1_add 11 = .ok (.if_icmp .gt 14, 3) := by decide +kernel
theorem dX1_add_14 : decode cX1_add 14 = .ok (.aload_n 0, 1) := by decide +kernel
theorem dX1_add_15 : decode cX1_add 15 = .ok (.getfield 26, 3) := by decide +kernel
theorem dX1_add_18 : decode cX1_add 18 = .ok (.iload_n 1, 1) := by decide +kernel
theorem dX1_add_19 : decode cX1_add 19 = .ok (.iconst 1, 1) := by decide +kernel
theorem dX1_add_20 : decode cX1_add 20 = .ok (.isub, 1) := by decide +kernel
theorem dX1_add_21 : decode cX1_add 21 = .ok (.aaload, 1) := by decide +kernel
theorem dX1_add_22 : decode cX1_add 22 = .ok (.ifnull 5, 3) := by decide +kernel
theorem dX1_add_25 : decode cX1_add 25 = .ok (.iconst 0, 1) := by decide +kernel
theorem dX1_add_26 : decode cX1_add 26 = .ok (.ireturn, 1) := by decide +kernel
theorem dX1_add_27 : decode cX1_add 27 = .ok (.aload_n 0, 1) := by decide +kernel
theorem dX1_add_28 : decode cX1_add 28 = .ok (.getfield 26, 3) := by decide +kernel
theorem dX1_add_31 : decode cX1_add 31 = .ok (.iload_n 1, 1) := by decide +kernel
theorem dX1_add_32 : decode cX1_add 32 = .ok (.iconst 1, 1) := by decide +kernel
theorem dX1_add_33 : decode cX1_add 33 = .ok (.isub, 1) := by decide +kernel
theorem dX1_add_34 : decode cX1_add 34 = .ok (.new 24, 3) := by decide +kernel
theorem dX1_add_37 : decode cX1_add 37 = .ok (.dup, 1) := by decide +kernel
theorem dX1_add_38 : decode cX1_add 38 = .ok (.aload_n 2, 1) := by decide +kernel
theorem dX1_add_39 : decode cX1_add 39 = .ok (.invokespecial 33, 3) := by decide +kernel
theorem dX1_add_42 : decode cX1_add 42 = .ok (.aastore, 1) := by decide +kernel
theorem dX1_add_43 : decode cX1_add 43 = .ok (.aload_n 0, 1) := by decide +kernel
theorem dX1_add_44 : decode cX1_add 44 = .ok (.dup, 1) := by decide +kernel
theorem dX1_add_45 : decode cX1_add 45 = .ok (.getfield 30, 3) := by decide +kernel
theorem dX1_add_48 : decode cX1_add 48 = .ok (.iconst 1, 1) := by decide +kernel
theorem dX1_add_49 : decode cX1_add 49 = .ok (.iadd, 1) := by decide +kernel
theorem dX1_add_50 : decode cX1_add 50 = .ok (.putfield 30, 3) := by decide +kernel
theorem dX1_add_53 : decode cX1_add 53 = .ok (.aload_n 0, 1) := by decide +kernel
theorem dX1_add_54 : decode cX1_add 54 = .ok (.dup, 1) := by decide +kernel
theorem dX1_add_55 : decode cX1_add 55 = .ok (.getfield 36, 3) := by decide +kernel
theorem dX1_add_58 : decode cX1_add 58 = .ok (.aload_n 2, 1) := by decide +kernel
theorem dX1_add_59 : decode cX1_add 59 = .ok (.arraylength, 1) := by decide +kernel
theorem dX1_add_60 : decode cX1_add 60 = .ok (.iadd, 1) := by decide +kernel
theorem dX1_add_61 : decode cX1_add 61 = .ok (.putfield 36, 3) := by decide +kernel
theorem dX1_add_64 : decode cX1_add 64 = .ok (.iconst 1, 1) := by decide +kernel
theorem dX1_add_65 : decode cX1_add 65 = .ok (.ireturn, 1) := by decide +kernel
theorem dX1_unitAt_0 : decode cX1_unitAt 0 = .ok (.iload_n 1, 1) := by decide +kernel
theorem dX1_unitAt_1 : decode cX1_unitAt 1 = .ok (.ifCond .ge 5, 3) := by decide +kernel
theorem dX1_unitAt_4 : decode cX1_unitAt 4 = .ok (.iconst (-1), 1) := by decide +kernel
theorem dX1_unitAt_5 : decode cX1_unitAt 5 = .ok (.ireturn, 1) := by decide +kernel
theorem dX1_unitAt_6 : decode cX1_unitAt 6 = .ok (.iload_n 1, 1) := by decide +kernel
theorem dX1_unitAt_7 : decode cX1_unitAt 7 = .ok (.istore_n 2, 1) := by decide +kernel
theorem dX1_unitAt_8 : decode cX1_unitAt 8 = .ok (.aload_n 0, 1) := by decide +kernel
theorem dX1_unitAt_9 : decode cX1_unitAt 9 = .ok (.getfield 26, 3) := by decide +kernel
theorem dX1_unitAt_12 : decode cX1_unitAt 12 = .ok (.astore_n 3, 1) := by decide +kernel
theorem dX1_unitAt_13 : decode cX1_unitAt 13 = .ok (.aload_n 3, 1) := by decide +kernel
theorem dX1_unitAt_14 : decode cX1_unitAt 14 = .ok (.arraylength, 1) := by decide +kernel
theorem dX1_unitAt_15 : decode cX1_unitAt 15 = .ok (.istore 4, 2) := by decide +kernel
theorem dX1_unitAt_17 : decode cX1_unitAt 17 = .ok (.iconst 0, 1) := by decide +kernel
theorem dX1_unitAt_18 : decode cX1_unitAt 18 = .ok (.istore 5, 2) := by decide +kernel
theorem dX1_unitAt_20 : decode cX1_unitAt 20 = .ok (.iload 5, 2) := by decide +kernel
theorem dX1_unitAt_22 : decode cX1_unitAt 22 = .ok (.iload 4, 2) := by decide +kernel
theorem dX1_unitAt_24 : decode cX1_unitAt 24 = .ok (.if_icmp .ge 47, 3) := by decide +kernel
theorem dX1_unitAt_27 : decode cX1_unitAt 27 = .ok (.aload_n 3, 1) := by decide +kernel
theorem dX1_unitAt_28 : decode cX1_unitAt 28 = .ok (.iload 5, 2) := by decide +kernel
theorem dX1_unitAt_30 : decode cX1_unitAt 30 = .ok (.aaload, 1) := by decide +kernel
theorem dX1_unitAt_31 : decode cX1_unitAt 31 = .ok (.astore 6, 2) := by decide +kernel
theorem dX1_unitAt_33 : decode cX1_unitAt 33 = .ok (.aload 6, 2) := by decide +kernel
theorem dX1_unitAt_35 : decode cX1_unitAt 35 = .ok (.ifnull 30, 3) := by decide +kernel
theorem dX1_unitAt_38 : decode cX1_unitAt 38 = .ok (.iload_n 2, 1) := by decide +kernel
theorem dX1_unitAt_39 : decode cX1_unitAt 39 = .ok (.aload 6, 2) := by decide +kernel
theorem dX1_unitAt_41 : decode cX1_unitAt 41 = .ok (.getfield 39, 3) := by decide +kernel
theorem dX1_unitAt_44 : decode cX1_unitAt 44 = .ok (.arraylength, 1) := by decide +kernel
theorem dX1_unitAt_45 : decode cX1_unitAt 45 = .ok (.if_icmp .ge 11, 3) := by decide +kernel
theorem dX1_unitAt_48 : decode cX1_unitAt 48 = .ok (.aload 6, 2) := by decide +kernel
theorem dX1_unitAt_50 : decode cX1_unitAt 50 = .ok (.getfield 39, 3) := by decide +kernel
theorem dX1_unitAt_53 : decode cX1_unitAt 53 = .ok (.iload_n 2, 1) := by decide +kernel
theorem dX1_unitAt_54 : decode cX1_unitAt 54 = .ok (.iaload, 1) := by decide +kernel
theorem dX1_unitAt_55 : decode cX1_unitAt 55 = .ok (.ireturn, 1) := by decide +kernel
theorem dX1_unitAt_56 : decode cX1_unitAt 56 = .ok (.iload_n 2, 1) := by decide +kernel
theorem dX1_unitAt_57 : decode cX1_unitAt 57 = .ok (.aload 6, 2) := by decide +kernel
theorem dX1_unitAt_59 : decode cX1_unitAt 59 = .ok (.getfield 39, 3) := by decide +kernel
theorem dX1_unitAt_62 : decode cX1_unitAt 62 = .ok (.arraylength, 1) := by decide +kernel
theorem dX1_unitAt_63 : decode cX1_unitAt 63 = .ok (.isub, 1) := by decide +kernel
theorem dX1_unitAt_64 : decode cX1_unitAt 64 = .ok (.istore_n 2, 1) := by decide +kernel
theorem dX1_unitAt_65 : decode cX1_unitAt 65 = .ok (.iinc 5 1, 3) := by decide +kernel
theorem dX1_unitAt_68 : decode cX1_unitAt 68 = .ok (.goto (-48), 3) := by decide +kernel
theorem dX1_unitAt_71 : decode cX1_unitAt 71 = .ok (.iconst (-1), 1) := by decide +kernel
theorem dX1_unitAt_72 : decode cX1_unitAt 72 = .ok (.ireturn, 1) := by decide +kernel
theorem dX1_tell_0 : decode cX1_tell 0 = .ok (.iload_n 1, 1) := by decide +kernel
theorem dX1_tell_1 : decode cX1_tell 1 = .ok (.tableswitch 43 0 2 #[27, 32, 37], 27) := by decide +kernel
theorem dX1_tell_28 : decode cX1_tell 28 = .ok (.aload_n 0, 1) := by decide +kernel
theorem dX1_tell_29 : decode cX1_tell 29 = .ok (.getfield 9, 3) := by decide +kernel
theorem dX1_tell_32 : decode cX1_tell 32 = .ok (.ireturn, 1) := by decide +kernel
theorem dX1_tell_33 : decode cX1_tell 33 = .ok (.aload_n 0, 1) := by decide +kernel
theorem dX1_tell_34 : decode cX1_tell 34 = .ok (.getfield 15, 3) := by decide +kernel
theorem dX1_tell_37 : decode cX1_tell 37 = .ok (.ireturn, 1) := by decide +kernel
theorem dX1_tell_38 : decode cX1_tell 38 = .ok (.aload_n 0, 1) := by decide +kernel
theorem dX1_tell_39 : decode cX1_tell 39 = .ok (.getfield 26, 3) := by decide +kernel
theorem dX1_tell_42 : decode cX1_tell 42 = .ok (.arraylength, 1) := by decide +kernel
theorem dX1_tell_43 : decode cX1_tell 43 = .ok (.ireturn, 1) := by decide +kernel
theorem dX1_tell_44 : decode cX1_tell 44 = .ok (.aload_n 0, 1) := by decide +kernel
theorem dX1_tell_45 : decode cX1_tell 45 = .ok (.getfield 30, 3) := by decide +kernel
theorem dX1_tell_48 : decode cX1_tell 48 = .ok (.ireturn, 1) := by decide +kernel
set_option maxRecDepth 20000 in
theorem ggX2_init_X4_init : GoodIn wsX2_init wsX4_init := goodIn_r _ [11, 12, 2, 3, 13, 14, 15, 16, 17, 18, 19, 20, 21] rfl (by decide +kernel)
set_option maxRecDepth 20000 in
theorem gX2_init_X4_init_n11 : GoodIn wsX2_init (wsX4_init) := ggX2_init_X4_init
theorem dX2_init_0 : decode cX2_init 0 = .ok (.aload_n 0, 1) := by decide +kernel
theorem dX2_init_1 : decode cX2_init 1 = .ok (.invokespecial 3, 3) := by decide +kernel
theorem dX2_init_4 : decode cX2_init 4 = .ok (.aload_n 0, 1) := by decide +kernel
theorem dX2_init_5 : decode cX2_init 5 = .ok (.new 9, 3) := by decide +kernel
theorem dX2_init_8 : decode cX2_init 8 = .ok (.dup, 1) := by decide +kernel
theorem dX2_init_9 : decode cX2_init 9 = .ok (.invokespecial 11, 3) := by decide +kernel
theorem dX2_init_12 : decode cX2_init 12 = .ok (.putfield 12, 3) := by decide +kernel
theorem dX2_init_15 : decode cX2_init 15 = .ok (.aload_n 0, 1) := by decide +kernel
theorem dX2_init_16 : decode cX2_init 16 = .ok (.bipush 16, 2) := by decide +kernel
theorem dX2_init_18 : decode cX2_init 18 = .ok (.anewarray 18, 3) := by decide +kernel
theorem dX2_init_21 : decode cX2_init 21 = .ok (.putfield 20, 3) := by decide +kernel
theorem dX2_init_24 : decode cX2_init 24 = .ok (.return_, 1) := by decide +kernel
set_option maxRecDepth 20000 in
theorem ggX2_accept_X4_faultOf : GoodIn wsX2_accept wsX4_faultOf := goodIn_r _ [11, 12, 13, 14, 15, 16, 17, 18, 19, 20, 21, 22, 23, 24, 25, 10, 26, 27, 28, 29, 30, 31, 32, 33, 34, 35, 36, 37, 38, 39, 40, 41, 42, 43, 44, 45, 46, 47, 48, 49, 50, 51, 52, 53, 187, 188, 174, 175, 176, 177, 178, 179, 180] rfl (by decide +kernel)
set_option maxRecDepth 20000 in
theorem gX2_accept_X4_faultOf : GoodIn wsX2_accept (wsV RX2 24 RX4 yX4_faultOf wsX4_faultOf) := goodIn_app (goodIn_of _ (by decide +kernel)) ggX2_accept_X4_faultOf
set_option maxRecDepth 20000 in
theorem ggX2_accept_X4_unitsOf : GoodIn wsX2_accept wsX4_unitsOf := goodIn_r _ [57, 14, 58, 59, 60, 61, 10, 62, 13, 15, 16, 17, 18, 19, 20, 21, 22, 63, 64, 65, 66, 67, 68, 69, 70, 45, 46, 47, 48, 49, 50, 51, 52, 53, 71, 72, 73, 74, 75, 76, 77, 78, 79, 80, 81, 82, 83, 84, 85, 86, 87, 88, 89, 90, 91, 92, 93, 94, 95, 96, 97, 98, 99, 100, 101, 102, 103, 104, 105, 106, 174, 175, 176, 177, 178, 179, 180, 187, 188] rfl (by decide +kernel)
set_option maxRecDepth 20000 in
theorem gX2_accept_X4_unitsOf : GoodIn wsX2_accept (wsV RX2 28 RX4 yX4_unitsOf wsX4_unitsOf) := goodIn_app (goodIn_of _ (by decide +kernel)) ggX2_accept_X4_unitsOf
set_option maxRecDepth 20000 in
theorem ggX2_accept_X2_keep : GoodIn wsX2_accept wsX2_keep := goodIn_r _ [111, 112, 1, 113, 114, 115, 6, 116, 117, 118, 110, 119, 120, 121, 122, 123, 124, 125, 5, 126, 127, 128, 129, 130, 131, 132, 133, 134, 101, 51, 102, 135, 50, 52, 3, 4, 136, 137, 138, 139, 140, 141, 142, 143, 144, 145, 146, 147, 148, 149, 150, 151, 152, 153, 154, 155, 156, 157, 158, 159, 160, 161, 162, 163, 164, 165, 166, 167, 168, 169, 170, 171, 172, 173, 174, 175, 176, 177, 178, 179, 180, 181, 182, 183, 184, 185, 186, 189] rfl (by decide +kernel)
set_option maxRecDepth 20000 in
theorem gX2_accept_X2_keep : GoodIn wsX2_accept (wsV RX2 36 RX2 yX2_keep wsX2_keep) := goodIn_app (goodIn_of _ (by decide +kernel)) ggX2_accept_X2_keep
set_option maxRecDepth 20000 in
theorem ggX2_accept_X1_init : GoodIn wsX2_accept wsX1_init := goodIn_r _ [146, 147, 148, 149, 127, 128, 150, 50, 51, 52, 151, 129, 181, 182, 183, 184, 185, 186] rfl (by decide +kernel)
set_option maxRecDepth 20000 in
theorem gX2_accept_X1_init : GoodIn wsX2_accept (wsX1_init) := ggX2_accept_X1_init
set_option maxRecDepth 20000 in
theorem ggX2_accept_X1_add : GoodIn wsX2_accept wsX1_add := goodIn_r _ [155, 129, 151, 156, 157, 158, 159, 160, 161, 162, 163, 148, 149, 164, 181, 182, 183, 184, 185, 186, 189] rfl (by decide +kernel)
set_option maxRecDepth 20000 in
theorem gX2_accept_X1_add : GoodIn wsX2_accept (wsV RX2 47 RX1 yX1_add wsX1_add) := goodIn_app (goodIn_of _ (by decide +kernel)) ggX2_accept_X1_add
theorem dX2_accept_0 : decode cX2_accept 0 = .ok (.aload_n 0, 1) := by decide +kernel
theorem dX2_accept_1 : decode cX2_accept 1 = .ok (.getfield 12, 3) := by decide +kernel
theorem dX2_accept_4 : decode cX2_accept 4 = .ok (.aload_n 2, 1) := by decide +kernel
theorem dX2_accept_5 : decode cX2_accept 5 = .ok (.invokevirtual 24, 3) := by decide +kernel
theorem dX2_accept_8 : decode cX2_accept 8 = .ok (.istore_n 3, 1) := by decide +kernel
theorem dX2_accept_9 : decode cX2_accept 9 = .ok (.iload_n 3, 1) := by decide +kernel
theorem dX2_accept_10 : decode cX2_accept 10 = .ok (.ifCond .eq 5, 3) := by decide +kernel
theorem dX2_accept_13 : decode cX2_accept 13 = .ok (.iload_n 3, 1) := by decide +kernel
theorem dX2_accept_14 : decode cX2_accept 14 = .ok (.ireturn, 1) := by decide +kernel
theorem dX2_accept_15 : decode cX2_accept 15 = .ok (.aload_n 0, 1) := by decide +kernel
theorem dX2_accept_16 : decode cX2_accept 16 = .ok (.getfield 12, 3) := by decide +kernel
theorem dX2_accept_19 : decode cX2_accept 19 = .ok (.aload_n 2, 1) := by decide +kernel
theorem dX2_accept_20 : decode cX2_accept 20 = .ok (.invokevirtual 28, 3) := by decide +kernel
theorem dX2_accept_23 : decode cX2_accept 23 = .ok (.astore 4, 2) := by decide +kernel
theorem dX2_accept_25 : decode cX2_accept 25 = .ok (.aload_n 0, 1) := by decide +kernel
theorem dX2_accept_26 : decode cX2_accept 26 = .ok (.getfield 12, 3) := by decide +kernel
theorem dX2_accept_29 : decode cX2_accept 29 = .ok (.getfield 32, 3) := by decide +kernel
theorem dX2_accept_32 : decode cX2_accept 32 = .ok (.ifCond .eq 19, 3) := by decide +kernel
theorem dX2_accept_35 : decode cX2_accept 35 = .ok (.aload_n 0, 1) := by decide +kernel
theorem dX2_accept_36 : decode cX2_accept 36 = .ok (.iload_n 1, 1) := by decide +kernel
theorem dX2_accept_37 : decode cX2_accept 37 = .ok (.aload 4, 2) := by decide +kernel
theorem dX2_accept_39 : decode cX2_accept 39 = .ok (.invokevirtual 36, 3) := by decide +kernel
theorem dX2_accept_42 : decode cX2_accept 42 = .ok (.ifCond .eq 7, 3) := by decide +kernel
theorem dX2_accept_45 : decode cX2_accept 45 = .ok (.iconst 1, 1) := by decide +kernel
theorem dX2_accept_46 : decode cX2_accept 46 = .ok (.goto 4, 3) := by decide +kernel
theorem dX2_accept_49 : decode cX2_accept 49 = .ok (.iconst 0, 1) := by decide +kernel
theorem dX2_accept_50 : decode cX2_accept 50 = .ok (.ireturn, 1) := by decide +kernel
theorem dX2_accept_51 : decode cX2_accept 51 = .ok (.aload_n 0, 1) := by decide +kernel
theorem dX2_accept_52 : decode cX2_accept 52 = .ok (.new 18, 3) := by decide +kernel
theorem dX2_accept_55 : decode cX2_accept 55 = .ok (.dup, 1) := by decide +kernel
theorem dX2_accept_56 : decode cX2_accept 56 = .ok (.iload_n 1, 1) := by decide +kernel
theorem dX2_accept_57 : decode cX2_accept 57 = .ok (.iconst (-1), 1) := by decide +kernel
theorem dX2_accept_58 : decode cX2_accept 58 = .ok (.iconst 1, 1) := by decide +kernel
theorem dX2_accept_59 : decode cX2_accept 59 = .ok (.invokespecial 40, 3) := by decide +kernel
theorem dX2_accept_62 : decode cX2_accept 62 = .ok (.putfield 43, 3) := by decide +kernel
theorem dX2_accept_65 : decode cX2_accept 65 = .ok (.aload_n 0, 1) := by decide +kernel
theorem dX2_accept_66 : decode cX2_accept 66 = .ok (.getfield 43, 3) := by decide +kernel
theorem dX2_accept_69 : decode cX2_accept 69 = .ok (.iconst 1, 1) := by decide +kernel
theorem dX2_accept_70 : decode cX2_accept 70 = .ok (.aload 4, 2) := by decide +kernel
theorem dX2_accept_72 : decode cX2_accept 72 = .ok (.invokevirtual 47, 3) := by decide +kernel
theorem dX2_accept_75 : decode cX2_accept 75 = .ok (.pop, 1) := by decide +kernel
theorem dX2_accept_76 : decode cX2_accept 76 = .ok (.iconst 1, 1) := by decide +kernel
theorem dX2_accept_77 : decode cX2_accept 77 = .ok (.ireturn, 1) := by decide +kernel
theorem dX2_latestUnits_0 : decode cX2_latestUnits 0 = .ok (.aload_n 0, 1) := by decide +kernel
theorem dX2_latestUnits_1 : decode cX2_latestUnits 1 = .ok (.getfield 43, 3) := by decide +kernel
theorem dX2_latestUnits_4 : decode cX2_latestUnits 4 = .ok (.ifnonnull 7, 3) := by decide +kernel
theorem dX2_latestUnits_7 : decode cX2_latestUnits 7 = .ok (.iconst 0, 1) := by decide +kernel
theorem dX2_latestUnits_8 : decode cX2_latestUnits 8 = .ok (.goto 10, 3) := by decide +kernel
theorem dX2_latestUnits_11 : decode cX2_latestUnits 11 = .ok (.aload_n 0, 1) := by decide +kernel
theorem dX2_latestUnits_12 : decode cX2_latestUnits 12 = .ok (.getfield 43, 3) := by decide +kernel
theorem dX2_latestUnits_15 : decode cX2_latestUnits 15 = .ok (.getfield 50, 3) := by decide +kernel
theorem dX2_latestUnits_18 : decode cX2_latestUnits 18 = .ok (.ireturn, 1) := by decide +kernel
set_option maxRecDepth 20000 in
theorem ggX2_latestUnit_X1_unitAt : GoodIn wsX2_latestUnit wsX1_unitAt := goodIn_r _ [6, 7, 8, 14, 15, 16, 17, 18, 19, 20] rfl (by decide +kernel)
set_option maxRecDepth 20000 in
theorem gX2_latestUnit_X1_unitAt : GoodIn wsX2_latestUnit (wsV RX2 54 RX1 yX1_unitAt wsX1_unitAt) := goodIn_app (goodIn_of _ (by decide +kernel)) ggX2_latestUnit_X1_unitAt
theorem dX2_latestUnit_0 : decode cX2_latestUnit 0 = .ok (.aload_n 0, 1) := by decide +kernel
theorem dX2_latestUnit_1 : decode cX2_latestUnit 1 = .ok (.getfield 43, 3) := by decide +kernel
theorem dX2_latestUnit_4 : decode cX2_latestUnit 4 = .ok (.ifnonnull 7, 3) := by decide +kernel
theorem dX2_latestUnit_7 : decode cX2_latestUnit 7 = .ok (.iconst (-1), 1) := by decide +kernel
theorem dX2_latestUnit_8 : decode cX2_latestUnit 8 = .ok (.goto 11, 3) := by decide +kernel
theorem dX2_latestUnit_11 : decode cX2_latestUnit 11 = .ok (.aload_n 0, 1) := by decide +kernel
theorem dX2_latestUnit_12 : decode cX2_latestUnit 12 = .ok (.getfield 43, 3) := by decide +kernel
theorem dX2_latestUnit_15 : decode cX2_latestUnit 15 = .ok (.iload_n 1, 1) := by decide +kernel
theorem dX2_latestUnit_16 : decode cX2_latestUnit 16 = .ok (.invokevirtual 54, 3) := by decide +kernel
theorem dX2_latestUnit_19 : decode cX2_latestUnit 19 = .ok (.ireturn, 1) := by decide +kernel
set_option maxRecDepth 20000 in
theorem ggX2_aboutHeap_X1_tell : GoodIn wsX2_aboutHeap wsX1_tell := goodIn_r _ [7, 8, 9, 10, 11, 17, 18, 19, 20, 21, 22] rfl (by decide +kernel)
set_option maxRecDepth 20000 in
theorem gX2_aboutHeap_X1_tell : GoodIn wsX2_aboutHeap (wsV RX2 61 RX1 yX1_tell wsX1_tell) := goodIn_app (goodIn_of _ (by decide +kernel)) ggX2_aboutHeap_X1_tell
theorem dX2_aboutHeap_0 : decode cX2_aboutHeap 0 = .ok (.iload_n 1, 1) := by decide +kernel
theorem dX2_aboutHeap_1 : decode cX2_aboutHeap 1 = .ok (.ifCond .lt 29, 3) := by decide +kernel
theorem dX2_aboutHeap_4 : decode cX2_aboutHeap 4 = .ok (.iload_n 1, 1) := by decide +kernel
theorem dX2_aboutHeap_5 : decode cX2_aboutHeap 5 = .ok (.aload_n 0, 1) := by decide +kernel
theorem dX2_aboutHeap_6 : decode cX2_aboutHeap 6 = .ok (.getfield 58, 3) := by decide +kernel
theorem dX2_aboutHeap_9 : decode cX2_aboutHeap 9 = .ok (.if_icmp .ge 21, 3) := by decide +kernel
theorem dX2_aboutHeap_12 : decode cX2_aboutHeap 12 = .ok (.iload_n 1, 1) := by decide +kernel
theorem dX2_aboutHeap_13 : decode cX2_aboutHeap 13 = .ok (.aload_n 0, 1) := by decide +kernel
theorem dX2_aboutHeap_14 : decode cX2_aboutHeap 14 = .ok (.getfield 20, 3) := by decide +kernel
theorem dX2_aboutHeap_17 : decode cX2_aboutHeap 17 = .ok (.arraylength, 1) := by decide +kernel
theorem dX2_aboutHeap_18 : decode cX2_aboutHeap 18 = .ok (.if_icmp .ge 12, 3) := by decide +kernel
theorem dX2_aboutHeap_21 : decode cX2_aboutHeap 21 = .ok (.aload_n 0, 1) := by decide +kernel
theorem dX2_aboutHeap_22 : decode cX2_aboutHeap 22 = .ok (.getfield 20, 3) := by decide +kernel
theorem dX2_aboutHeap_25 : decode cX2_aboutHeap 25 = .ok (.iload_n 1, 1) := by decide +kernel
theorem dX2_aboutHeap_26 : decode cX2_aboutHeap 26 = .ok (.aaload, 1) := by decide +kernel
theorem dX2_aboutHeap_27 : decode cX2_aboutHeap 27 = .ok (.ifnonnull 5, 3) := by decide +kernel
theorem dX2_aboutHeap_30 : decode cX2_aboutHeap 30 = .ok (.iconst (-1), 1) := by decide +kernel
theorem dX2_aboutHeap_31 : decode cX2_aboutHeap 31 = .ok (.ireturn, 1) := by decide +kernel
theorem dX2_aboutHeap_32 : decode cX2_aboutHeap 32 = .ok (.aload_n 0, 1) := by decide +kernel
theorem dX2_aboutHeap_33 : decode cX2_aboutHeap 33 = .ok (.getfield 20, 3) := by decide +kernel
theorem dX2_aboutHeap_36 : decode cX2_aboutHeap 36 = .ok (.iload_n 1, 1) := by decide +kernel
theorem dX2_aboutHeap_37 : decode cX2_aboutHeap 37 = .ok (.aaload, 1) := by decide +kernel
theorem dX2_aboutHeap_38 : decode cX2_aboutHeap 38 = .ok (.iload_n 2, 1) := by decide +kernel
theorem dX2_aboutHeap_39 : decode cX2_aboutHeap 39 = .ok (.invokevirtual 61, 3) := by decide +kernel
theorem dX2_aboutHeap_42 : decode cX2_aboutHeap 42 = .ok (.ireturn, 1) := by decide +kernel
set_option maxRecDepth 20000 in
theorem ggX2_dropSender_X2_aboutHeap : GoodIn wsX2_dropSender wsX2_aboutHeap := goodIn_r _ [6, 1, 7, 8, 9, 10, 11, 12, 13, 14, 15, 16, 21, 22, 23, 24, 25, 26, 27, 28, 29, 30, 31] rfl (by decide +kernel)
set_option maxRecDepth 20000 in
theorem gX2_dropSender_X2_aboutHeap : GoodIn wsX2_dropSender (wsV RX2 64 RX2 yX2_aboutHeap wsX2_aboutHeap) := goodIn_app (goodIn_of _ (by decide +kernel)) ggX2_dropSender_X2_aboutHeap
set_option maxRecDepth 20000 in
theorem ggX2_dropSender_X2_removeHeap : GoodIn wsX2_dropSender wsX2_removeHeap := goodIn_r _ [20, 1, 7, 21, 22, 23, 24, 25] rfl (by decide +kernel)
set_option maxRecDepth 20000 in
theorem gX2_dropSender_X2_removeHeap : GoodIn wsX2_dropSender (wsV RX2 68 RX2 yX2_removeHeap wsX2_removeHeap) := goodIn_app (goodIn_of _ (by decide +kernel)) ggX2_dropSender_X2_removeHeap
theorem dX2_dropSender_0 : decode cX2_dropSender 0 = .ok (.aload_n 0, 1) := by decide +kernel
theorem dX2_dropSender_1 : decode cX2_dropSender 1 = .ok (.getfield 58, 3) := by decide +kernel
theorem dX2_dropSender_4 : decode cX2_dropSender 4 = .ok (.istore_n 2, 1) := by decide +kernel
theorem dX2_dropSender_5 : decode cX2_dropSender 5 = .ok (.iload_n 2, 1) := by decide +kernel
theorem dX2_dropSender_6 : decode cX2_dropSender 6 = .ok (.iconst 1, 1) := by decide +kernel
theorem dX2_dropSender_7 : decode cX2_dropSender 7 = .ok (.isub, 1) := by decide +kernel
theorem dX2_dropSender_8 : decode cX2_dropSender 8 = .ok (.istore_n 3, 1) := by decide +kernel
theorem dX2_dropSender_9 : decode cX2_dropSender 9 = .ok (.iload_n 3, 1) := by decide +kernel
theorem dX2_dropSender_10 : decode cX2_dropSender 10 = .ok (.ifCond .lt 24, 3) := by decide +kernel
theorem dX2_dropSender_13 : decode cX2_dropSender 13 = .ok (.aload_n 0, 1) := by decide +kernel
theorem dX2_dropSender_14 : decode cX2_dropSender 14 = .ok (.iload_n 3, 1) := by decide +kernel
theorem dX2_dropSender_15 : decode cX2_dropSender 15 = .ok (.iconst 0, 1) := by decide +kernel
theorem dX2_dropSender_16 : decode cX2_dropSender 16 = .ok (.invokevirtual 64, 3) := by decide +kernel
theorem dX2_dropSender_19 : decode cX2_dropSender 19 = .ok (.iload_n 1, 1) := by decide +kernel
theorem dX2_dropSender_20 : decode cX2_dropSender 20 = .ok (.if_icmp .ne 8, 3) := by decide +kernel
theorem dX2_dropSender_23 : decode cX2_dropSender 23 = .ok (.aload_n 0, 1) := by decide +kernel
theorem dX2_dropSender_24 : decode cX2_dropSender 24 = .ok (.iload_n 3, 1) := by decide +kernel
theorem dX2_dropSender_25 : decode cX2_dropSender 25 = .ok (.invokevirtual 68, 3) := by decide +kernel
theorem dX2_dropSender_28 : decode cX2_dropSender 28 = .ok (.iinc 3 (-1), 3) := by decide +kernel
theorem dX2_dropSender_31 : decode cX2_dropSender 31 = .ok (.goto (-22), 3) := by decide +kernel
theorem dX2_dropSender_34 : decode cX2_dropSender 34 = .ok (.iload_n 2, 1) := by decide +kernel
theorem dX2_dropSender_35 : decode cX2_dropSender 35 = .ok (.aload_n 0, 1) := by decide +kernel
theorem dX2_dropSender_36 : decode cX2_dropSender 36 = .ok (.getfield 58, 3) := by decide +kernel
theorem dX2_dropSender_39 : decode cX2_dropSender 39 = .ok (.isub, 1) := by decide +kernel
theorem dX2_dropSender_40 : decode cX2_dropSender 40 = .ok (.ireturn, 1) := by decide +kernel
set_option maxRecDepth 20000 in
theorem ggX2_keep_X2_placeOf : GoodIn wsX2_keep wsX2_placeOf := goodIn_r _ [11, 12, 1, 2, 13, 14, 15, 16, 17, 18, 19, 20, 21, 22, 69, 70, 71, 72, 73, 74, 75, 76, 77, 78, 79, 80, 81, 82, 83, 84, 85, 86] rfl (by decide +kernel)
set_option maxRecDepth 20000 in
theorem gX2_keep_X2_placeOf : GoodIn wsX2_keep (wsV RX2 72 RX2 yX2_placeOf wsX2_placeOf) := goodIn_app (goodIn_of _ (by decide +kernel)) ggX2_keep_X2_placeOf
set_option maxRecDepth 20000 in
theorem ggX2_keep_X2_begin : GoodIn wsX2_keep wsX2_begin := goodIn_r _ [26, 12, 1, 27, 28, 29, 30, 31, 32, 33, 34, 35, 18, 2, 13, 14, 36, 37, 38, 10, 39, 5, 40, 41, 42, 43, 44, 45, 46, 47, 48, 49, 20, 21, 50, 51, 22, 69, 70, 71, 72, 73, 81, 82, 83, 84, 85, 86, 74, 75, 76, 77, 78, 79, 80] rfl (by decide +kernel)
set_option maxRecDepth 20000 in
theorem gX2_keep_X2_begin : GoodIn wsX2_keep (wsV RX2 75 RX2 yX2_begin wsX2_begin) := goodIn_app (goodIn_of _ (by decide +kernel)) ggX2_keep_X2_begin
set_option maxRecDepth 20000 in
theorem ggX2_keep_X1_add : GoodIn wsX2_keep wsX1_add := goodIn_r _ [55, 22, 51, 56, 57, 58, 59, 60, 61, 62, 63, 48, 49, 64, 81, 82, 83, 84, 85, 86, 87] rfl (by decide +kernel)
set_option maxRecDepth 20000 in
theorem gX2_keep_X1_add : GoodIn wsX2_keep (wsV RX2 47 RX1 yX1_add wsX1_add) := goodIn_app (goodIn_of _ (by decide +kernel)) ggX2_keep_X1_add
set_option maxRecDepth 20000 in
theorem ggX2_keep_X1_isWhole : GoodIn wsX2_keep wsX1_isWhole := goodIn_r _ [68, 58, 22, 81, 82, 83, 84, 85, 86] rfl (by decide +kernel)
set_option maxRecDepth 20000 in
theorem gX2_keep_X1_isWhole : GoodIn wsX2_keep (wsV RX2 87 RX1 yX1_isWhole wsX1_isWhole) := goodIn_app (goodIn_of _ (by decide +kernel)) ggX2_keep_X1_isWhole
set_option maxRecDepth 20000 in
theorem ggX2_keep_X2_removeHeap : GoodIn wsX2_keep wsX2_removeHeap := goodIn_r _ [43, 12, 1, 69, 70, 71, 72, 73] rfl (by decide +kernel)
set_option maxRecDepth 20000 in
theorem gX2_keep_X2_removeHeap : GoodIn wsX2_keep (wsV RX2 68 RX2 yX2_removeHeap wsX2_removeHeap) := goodIn_app (goodIn_of _ (by decide +kernel)) ggX2_keep_X2_removeHeap
theorem dX2_keep_0 : decode cX2_keep 0 = .ok (.aload_n 0, 1) := by decide +kernel
theorem dX2_keep_1 : decode cX2_keep 1 = .ok (.iload_n 1, 1) := by decide +kernel
theorem dX2_keep_2 : decode cX2_keep 2 = .ok (.invokevirtual 72, 3) := by decide +kernel
theorem dX2_keep_5 : decode cX2_keep 5 = .ok (.istore_n 3, 1) := by decide +kernel
theorem dX2_keep_6 : decode cX2_keep 6 = .ok (.iload_n 3, 1) := by decide +kernel
theorem dX2_keep_7 : decode cX2_keep 7 = .ok (.iconst (-1), 1) := by decide +kernel
theorem dX2_keep_8 : decode cX2_keep 8 = .ok (.if_icmp .ne 9, 3) := by decide +kernel
theorem dX2_keep_11 : decode cX2_keep 11 = .ok (.aload_n 0, 1) := by decide +kernel
theorem dX2_keep_12 : decode cX2_keep 12 = .ok (.iload_n 1, 1) := by decide +kernel
theorem dX2_keep_13 : decode cX2_keep 13 = .ok (.invokevirtual 75, 3) := by decide +kernel
theorem dX2_keep_16 : decode cX2_keep 16 = .ok (.istore_n 3, 1) := by decide +kernel
theorem dX2_keep_17 : decode cX2_keep 17 = .ok (.aload_n 0, 1) := by decide +kernel
theorem dX2_keep_18 : decode cX2_keep 18 = .ok (.getfield 20, 3) := by decide +kernel
theorem dX2_keep_21 : decode cX2_keep 21 = .ok (.iload_n 3, 1) := by decide +kernel
theorem dX2_keep_22 : decode cX2_keep 22 = .ok (.aaload, 1) := by decide +kernel
theorem dX2_keep_23 : decode cX2_keep 23 = .ok (.astore 4, 2) := by decide +kernel
theorem dX2_keep_25 : decode cX2_keep 25 = .ok (.aload 4, 2) := by decide +kernel
theorem dX2_keep_27 : decode cX2_keep 27 = .ok (.ifnull 19, 3) := by decide +kernel
theorem dX2_keep_30 : decode cX2_keep 30 = .ok (.aload 4, 2) := by decide +kernel
theorem dX2_keep_32 : decode cX2_keep 32 = .ok (.aload_n 0, 1) := by decide +kernel
theorem dX2_keep_33 : decode cX2_keep 33 = .ok (.getfield 12, 3) := by decide +kernel
theorem dX2_keep_36 : decode cX2_keep 36 = .ok (.getfield 78, 3) := by decide +kernel
theorem dX2_keep_39 : decode cX2_keep 39 = .ok (.aload_n 2, 1) := by decide +kernel
theorem dX2_keep_40 : decode cX2_keep 40 = .ok (.invokevirtual 47, 3) := by decide +kernel
theorem dX2_keep_43 : decode cX2_keep 43 = .ok (.ifCond .ne 5, 3) := by decide +kernel
theorem dX2_keep_46 : decode cX2_keep 46 = .ok (.iconst 0, 1) := by decide +kernel
theorem dX2_keep_47 : decode cX2_keep 47 = .ok (.ireturn, 1) := by decide +kernel
theorem dX2_keep_48 : decode cX2_keep 48 = .ok (.aload_n 0, 1) := by decide +kernel
theorem dX2_keep_49 : decode cX2_keep 49 = .ok (.dup, 1) := by decide +kernel
theorem dX2_keep_50 : decode cX2_keep 50 = .ok (.getfield 81, 3) := by decide +kernel
theorem dX2_keep_53 : decode cX2_keep 53 = .ok (.iconst 1, 1) := by decide +kernel
theorem dX2_keep_54 : decode cX2_keep 54 = .ok (.iadd, 1) := by decide +kernel
theorem dX2_keep_55 : decode cX2_keep 55 = .ok (.putfield 81, 3) := by decide +kernel
theorem dX2_keep_58 : decode cX2_keep 58 = .ok (.aload 4, 2) := by decide +kernel
theorem dX2_keep_60 : decode cX2_keep 60 = .ok (.aload_n 0, 1) := by decide +kernel
theorem dX2_keep_61 : decode cX2_keep 61 = .ok (.getfield 81, 3) := by decide +kernel
theorem dX2_keep_64 : decode cX2_keep 64 = .ok (.putfield 84, 3) := by decide +kernel
theorem dX2_keep_67 : decode cX2_keep 67 = .ok (.aload 4, 2) := by decide +kernel
theorem dX2_keep_69 : decode cX2_keep 69 = .ok (.invokevirtual 87, 3) := by decide +kernel
theorem dX2_keep_72 : decode cX2_keep 72 = .ok (.ifCond .ne 5, 3) := by decide +kernel
theorem dX2_keep_75 : decode cX2_keep 75 = .ok (.iconst 0, 1) := by decide +kernel
theorem dX2_keep_76 : decode cX2_keep 76 = .ok (.ireturn, 1) := by decide +kernel
theorem dX2_keep_77 : decode cX2_keep 77 = .ok (.aload_n 0, 1) := by decide +kernel
theorem dX2_keep_78 : decode cX2_keep 78 = .ok (.iload_n 3, 1) := by decide +kernel
theorem dX2_keep_79 : decode cX2_keep 79 = .ok (.invokevirtual 68, 3) := by decide +kernel
theorem dX2_keep_82 : decode cX2_keep 82 = .ok (.aload_n 0, 1) := by decide +kernel
theorem dX2_keep_83 : decode cX2_keep 83 = .ok (.aload 4, 2) := by decide +kernel
theorem dX2_keep_85 : decode cX2_keep 85 = .ok (.putfield 43, 3) := by decide +kernel
theorem dX2_keep_88 : decode cX2_keep 88 = .ok (.iconst 1, 1) := by decide +kernel
theorem dX2_keep_89 : decode cX2_keep 89 = .ok (.ireturn, 1) := by decide +kernel
set_option maxRecDepth 20000 in
theorem ggX2_placeOf_X1_isOf : GoodIn wsX2_placeOf wsX1_isOf := goodIn_r _ [10, 11, 12, 13, 26, 27, 28, 29, 30, 31] rfl (by decide +kernel)
set_option maxRecDepth 20000 in
theorem gX2_placeOf_X1_isOf : GoodIn wsX2_placeOf (wsV RX2 97 RX1 yX1_isOf wsX1_isOf) := goodIn_app (goodIn_of _ (by decide +kernel)) ggX2_placeOf_X1_isOf
theorem dX2_placeOf_0 : decode cX2_placeOf 0 = .ok (.iconst 0, 1) := by decide +kernel
theorem dX2_placeOf_1 : decode cX2_placeOf 1 = .ok (.istore_n 2, 1) := by decide +kernel
theorem dX2_placeOf_2 : decode cX2_placeOf 2 = .ok (.iload_n 2, 1) := by decide +kernel
theorem dX2_placeOf_3 : decode cX2_placeOf 3 = .ok (.aload_n 0, 1) := by decide +kernel
theorem dX2_placeOf_4 : decode cX2_placeOf 4 = .ok (.getfield 58, 3) := by decide +kernel
theorem dX2_placeOf_7 : decode cX2_placeOf 7 = .ok (.if_icmp .ge 56, 3) := by decide +kernel
theorem dX2_placeOf_10 : decode cX2_placeOf 10 = .ok (.iload_n 2, 1) := by decide +kernel
theorem dX2_placeOf_11 : decode cX2_placeOf 11 = .ok (.aload_n 0, 1) := by decide +kernel
theorem dX2_placeOf_12 : decode cX2_placeOf 12 = .ok (.getfield 20, 3) := by decide +kernel
theorem dX2_placeOf_15 : decode cX2_placeOf 15 = .ok (.arraylength, 1) := by decide +kernel
theorem dX2_placeOf_16 : decode cX2_placeOf 16 = .ok (.if_icmp .ge 47, 3) := by decide +kernel
theorem dX2_placeOf_19 : decode cX2_placeOf 19 = .ok (.aload_n 0, 1) := by decide +kernel
theorem dX2_placeOf_20 : decode cX2_placeOf 20 = .ok (.getfield 20, 3) := by decide +kernel
theorem dX2_placeOf_23 : decode cX2_placeOf 23 = .ok (.iload_n 2, 1) := by decide +kernel
theorem dX2_placeOf_24 : decode cX2_placeOf 24 = .ok (.aaload, 1) := by decide +kernel
theorem dX2_placeOf_25 : decode cX2_placeOf 25 = .ok (.ifnull 32, 3) := by decide +kernel
theorem dX2_placeOf_28 : decode cX2_placeOf 28 = .ok (.aload_n 0, 1) := by decide +kernel
theorem dX2_placeOf_29 : decode cX2_placeOf 29 = .ok (.getfield 20, 3) := by decide +kernel
theorem dX2_placeOf_32 : decode cX2_placeOf 32 = .ok (.iload_n 2, 1) := by decide +kernel
theorem dX2_placeOf_33 : decode cX2_placeOf 33 = .ok (.aaload, 1) := by decide +kernel
theorem dX2_placeOf_34 : decode cX2_placeOf 34 = .ok (.iload_n 1, 1) := by decide +kernel
theorem dX2_placeOf_35 : decode cX2_placeOf 35 = .ok (.aload_n 0, 1) := by decide +kernel
theorem dX2_placeOf_36 : decode cX2_placeOf 36 = .ok (.getfield 12, 3) := by decide +kernel
theorem dX2_placeOf_39 : decode cX2_placeOf 39 = .ok (.getfield 91, 3) := by decide +kernel
theorem dX2_placeOf_42 : decode cX2_placeOf 42 = .ok (.aload_n 0, 1) := by decide +kernel
theorem dX2_placeOf_43 : decode cX2_placeOf 43 = .ok (.getfield 12, 3) := by decide +kernel
theorem dX2_placeOf_46 : decode cX2_placeOf 46 = .ok (.getfield 94, 3) := by decide +kernel
theorem dX2_placeOf_49 : decode cX2_placeOf 49 = .ok (.invokevirtual 97, 3) := by decide +kernel
theorem dX2_placeOf_52 : decode cX2_placeOf 52 = .ok (.ifCond .eq 5, 3) := by decide +kernel
theorem dX2_placeOf_55 : decode cX2_placeOf 55 = .ok (.iload_n 2, 1) := by decide +kernel
theorem dX2_placeOf_56 : decode cX2_placeOf 56 = .ok (.ireturn, 1) := by decide +kernel
theorem dX2_placeOf_57 : decode cX2_placeOf 57 = .ok (.iinc 2 1, 3) := by decide +kernel
theorem dX2_placeOf_60 : decode cX2_placeOf 60 = .ok (.goto (-58), 3) := by decide +kernel
theorem dX2_placeOf_63 : decode cX2_placeOf 63 = .ok (.iconst (-1), 1) := by decide +kernel
theorem dX2_placeOf_64 : decode cX2_placeOf 64 = .ok (.ireturn, 1) := by decide +kernel
set_option maxRecDepth 20000 in
theorem ggX2_begin_X2_longestUntouched : GoodIn wsX2_begin wsX2_longestUntouched := goodIn_r _ [20, 1, 2, 21, 37, 38, 39, 40, 41, 42, 43, 44, 45, 46, 47] rfl (by decide +kernel)
set_option maxRecDepth 20000 in
theorem gX2_begin_X2_longestUntouched : GoodIn wsX2_begin (wsV RX2 101 RX2 yX2_longestUntouched wsX2_longestUntouched) := goodIn_app (goodIn_of _ (by decide +kernel)) ggX2_begin_X2_longestUntouched
set_option maxRecDepth 20000 in
theorem ggX2_begin_X2_removeHeap : GoodIn wsX2_begin wsX2_removeHeap := goodIn_r _ [25, 1, 2, 37, 38, 39, 40, 41] rfl (by decide +kernel)
set_option maxRecDepth 20000 in
theorem gX2_begin_X2_removeHeap : GoodIn wsX2_begin (wsV RX2 68 RX2 yX2_removeHeap wsX2_removeHeap) := goodIn_app (goodIn_of _ (by decide +kernel)) ggX2_begin_X2_removeHeap
set_option maxRecDepth 20000 in
theorem ggX2_begin_X1_init : GoodIn wsX2_begin wsX1_init := goodIn_r _ [28, 29, 30, 31, 32, 33, 34, 8, 5, 9, 35, 36, 42, 43, 44, 45, 46, 47] rfl (by decide +kernel)
set_option maxRecDepth 20000 in
theorem gX2_begin_X1_init : GoodIn wsX2_begin (wsX1_init) := ggX2_begin_X1_init
theorem dX2_begin_0 : decode cX2_begin 0 = .ok (.aload_n 0, 1) := by decide +kernel
theorem dX2_begin_1 : decode cX2_begin 1 = .ok (.getfield 58, 3) := by decide +kernel
theorem dX2_begin_4 : decode cX2_begin 4 = .ok (.aload_n 0, 1) := by decide +kernel
theorem dX2_begin_5 : decode cX2_begin 5 = .ok (.getfield 20, 3) := by decide +kernel
theorem dX2_begin_8 : decode cX2_begin 8 = .ok (.arraylength, 1) := by decide +kernel
theorem dX2_begin_9 : decode cX2_begin 9 = .ok (.if_icmp .lt 11, 3) := by decide +kernel
theorem dX2_begin_12 : decode cX2_begin 12 = .ok (.aload_n 0, 1) := by decide +kernel
theorem dX2_begin_13 : decode cX2_begin 13 = .ok (.aload_n 0, 1) := by decide +kernel
theorem dX2_begin_14 : decode cX2_begin 14 = .ok (.invokevirtual 101, 3) := by decide +kernel
theorem dX2_begin_17 : decode cX2_begin 17 = .ok (.invokevirtual 68, 3) := by decide +kernel
theorem dX2_begin_20 : decode cX2_begin 20 = .ok (.iconst 0, 1) := by decide +kernel
theorem dX2_begin_21 : decode cX2_begin 21 = .ok (.aload_n 0, 1) := by decide +kernel
theorem dX2_begin_22 : decode cX2_begin 22 = .ok (.getfield 58, 3) := by decide +kernel
theorem dX2_begin_25 : decode cX2_begin 25 = .ok (.aload_n 0, 1) := by decide +kernel
theorem dX2_begin_26 : decode cX2_begin 26 = .ok (.getfield 20, 3) := by decide +kernel
theorem dX2_begin_29 : decode cX2_begin 29 = .ok (.arraylength, 1) := by decide +kernel
theorem dX2_begin_30 : decode cX2_begin 30 = .ok (.iconst 1, 1) := by decide +kernel
theorem dX2_begin_31 : decode cX2_begin 31 = .ok (.isub, 1) := by decide +kernel
theorem dX2_begin_32 : decode cX2_begin 32 = .ok (.invokestatic 105, 3) := by decide +kernel
theorem dX2_begin_35 : decode cX2_begin 35 = .ok (.invokestatic 110, 3) := by decide +kernel
theorem dX2_begin_38 : decode cX2_begin 38 = .ok (.istore_n 2, 1) := by decide +kernel
theorem dX2_begin_39 : decode cX2_begin 39 = .ok (.aload_n 0, 1) := by decide +kernel
theorem dX2_begin_40 : decode cX2_begin 40 = .ok (.getfield 20, 3) := by decide +kernel
theorem dX2_begin_43 : decode cX2_begin 43 = .ok (.iload_n 2, 1) := by decide +kernel
theorem dX2_begin_44 : decode cX2_begin 44 = .ok (.new 18, 3) := by decide +kernel
theorem dX2_begin_47 : decode cX2_begin 47 = .ok (.dup, 1) := by decide +kernel
theorem dX2_begin_48 : decode cX2_begin 48 = .ok (.iload_n 1, 1) := by decide +kernel
theorem dX2_begin_49 : decode cX2_begin 49 = .ok (.aload_n 0, 1) := by decide +kernel
theorem dX2_begin_50 : decode cX2_begin 50 = .ok (.getfield 12, 3) := by decide +kernel
theorem dX2_begin_53 : decode cX2_begin 53 = .ok (.getfield 91, 3) := by decide +kernel
theorem dX2_begin_56 : decode cX2_begin 56 = .ok (.aload_n 0, 1) := by decide +kernel
theorem dX2_begin_57 : decode cX2_begin 57 = .ok (.getfield 12, 3) := by decide +kernel
theorem dX2_begin_60 : decode cX2_begin 60 = .ok (.getfield 94, 3) := by decide +kernel
theorem dX2_begin_63 : decode cX2_begin 63 = .ok (.invokespecial 40, 3) := by decide +kernel
theorem dX2_begin_66 : decode cX2_begin 66 = .ok (.aastore, 1) := by decide +kernel
theorem dX2_begin_67 : decode cX2_begin 67 = .ok (.aload_n 0, 1) := by decide +kernel
theorem dX2_begin_68 : decode cX2_begin 68 = .ok (.iload_n 2, 1) := by decide +kernel
theorem dX2_begin_69 : decode cX2_begin 69 = .ok (.iconst 1, 1) := by decide +kernel
theorem dX2_begin_70 : decode cX2_begin 70 = .ok (.iadd, 1) := by decide +kernel
theorem dX2_begin_71 : decode cX2_begin 71 = .ok (.putfield 58, 3) := by decide +kernel
theorem dX2_begin_74 : decode cX2_begin 74 = .ok (.iload_n 2, 1) := by decide +kernel
theorem dX2_begin_75 : decode cX2_begin 75 = .ok (.ireturn, 1) := by decide +kernel
theorem dX2_longestUntouched_0 : decode cX2_longestUntouched 0 = .ok (.iconst 0, 1) := by decide +kernel
theorem dX2_longestUntouched_1 : decode cX2_longestUntouched 1 = .ok (.istore_n 1, 1) := by decide +kernel
theorem dX2_longestUntouched_2 : decode cX2_longestUntouched 2 = .ok (.iconst 1, 1) := by decide +kernel
theorem dX2_longestUntouched_3 : decode cX2_longestUntouched 3 = .ok (.istore_n 2, 1) := by decide +kernel
theorem dX2_longestUntouched_4 : decode cX2_longestUntouched 4 = .ok (.iload_n 2, 1) := by decide +kernel
theorem dX2_longestUntouched_5 : decode cX2_longestUntouched 5 = .ok (.aload_n 0, 1) := by decide +kernel
theorem dX2_longestUntouched_6 : decode cX2_longestUntouched 6 = .ok (.getfield 58, 3) := by decide +kernel
theorem dX2_longestUntouched_9 : decode cX2_longestUntouched 9 = .ok (.if_icmp .ge 59, 3) := by decide +kernel
theorem dX2_longestUntouched_12 : decode cX2_longestUntouched 12 = .ok (.iload_n 2, 1) := by decide +kernel
theorem dX2_longestUntouched_13 : decode cX2_longestUntouched 13 = .ok (.aload_n 0, 1) := by decide +kernel
theorem dX2_longestUntouched_14 : decode cX2_longestUntouched 14 = .ok (.getfield 20, 3) := by decide +kernel
theorem dX2_longestUntouched_17 : decode cX2_longestUntouched 17 = .ok (.arraylength, 1) := by decide +kernel
theorem dX2_longestUntouched_18 : decode cX2_longestUntouched 18 = .ok (.if_icmp .ge 50, 3) := by decide +kernel
theorem dX2_longestUntouched_21 : decode cX2_longestUntouched 21 = .ok (.aload_n 0, 1) := by decide +kernel
theorem dX2_longestUntouched_22 : decode cX2_longestUntouched 22 = .ok (.getfield 20, 3) := by decide +kernel
theorem dX2_longestUntouched_25 : decode cX2_longestUntouched 25 = .ok (.iload_n 2, 1) := by decide +kernel
theorem dX2_longestUntouched_26 : decode cX2_longestUntouched 26 = .ok (.aaload, 1) := by decide +kernel
theorem dX2_longestUntouched_27 : decode cX2_longestUntouched 27 = .ok (.ifnull 35, 3) := by decide +kernel
theorem dX2_longestUntouched_30 : decode cX2_longestUntouched 30 = .ok (.aload_n 0, 1) := by decide +kernel
theorem dX2_longestUntouched_31 : decode cX2_longestUntouched 31 = .ok (.getfield 20, 3) := by decide +kernel
theorem dX2_longestUntouched_34 : decode cX2_longestUntouched 34 = .ok (.iload_n 1, 1) := by decide +kernel
theorem dX2_longestUntouched_35 : decode cX2_longestUntouched 35 = .ok (.aaload, 1) := by decide +kernel
theorem dX2_longestUntouched_36 : decode cX2_longestUntouched 36 = .ok (.ifnull 26, 3) := by decide +kernel
theorem dX2_longestUntouched_39 : decode cX2_longestUntouched 39 = .ok (.aload_n 0, 1) := by decide +kernel
theorem dX2_longestUntouched_40 : decode cX2_longestUntouched 40 = .ok (.getfield 20, 3) := by decide +kernel
theorem dX2_longestUntouched_43 : decode cX2_longestUntouched 43 = .ok (.iload_n 2, 1) := by decide +kernel
theorem dX2_longestUntouched_44 : decode cX2_longestUntouched 44 = .ok (.aaload, 1) := by decide +kernel
theorem dX2_longestUntouched_45 : decode cX2_longestUntouched 45 = .ok (.getfield 84, 3) := by decide +kernel
theorem dX2_longestUntouched_48 : decode cX2_longestUntouched 48 = .ok (.aload_n 0, 1) := by decide +kernel
theorem dX2_longestUntouched_49 : decode cX2_longestUntouched 49 = .ok (.getfield 20, 3) := by decide +kernel
theorem dX2_longestUntouched_52 : decode cX2_longestUntouched 52 = .ok (.iload_n 1, 1) := by decide +kernel
theorem dX2_longestUntouched_53 : decode cX2_longestUntouched 53 = .ok (.aaload, 1) := by decide +kernel
theorem dX2_longestUntouched_54 : decode cX2_longestUntouched 54 = .ok (.getfield 84, 3) := by decide +kernel
theorem dX2_longestUntouched_57 : decode cX2_longestUntouched 57 = .ok (.if_icmp .ge 5, 3) := by decide +kernel
theorem dX2_longestUntouched_60 : decode cX2_longestUntouched 60 = .ok (.iload_n 2, 1) := by decide +kernel
theorem dX2_longestUntouched_61 : decode cX2_longestUntouched 61 = .ok (.istore_n 1, 1) := by decide +kernel
theorem dX2_longestUntouched_62 : decode cX2_longestUntouched 62 = .ok (.iinc 2 1, 3) := by decide +kernel
theorem dX2_longestUntouched_65 : decode cX2_longestUntouched 65 = .ok (.goto (-61), 3) := by decide +kernel
theorem dX2_longestUntouched_68 : decode cX2_longestUntouched 68 = .ok (.iload_n 1, 1) := by decide +kernel
theorem dX2_longestUntouched_69 : decode cX2_longestUntouched 69 = .ok (.ireturn, 1) := by decide +kernel
theorem dX2_removeHeap_0 : decode cX2_removeHeap 0 = .ok (.iload_n 1, 1) := by decide +kernel
theorem dX2_removeHeap_1 : decode cX2_removeHeap 1 = .ok (.ifCond .lt 23, 3) := by decide +kernel
theorem dX2_removeHeap_4 : decode cX2_removeHeap 4 = .ok (.iload_n 1, 1) := by decide +kernel
theorem dX2_removeHeap_5 : decode cX2_removeHeap 5 = .ok (.aload_n 0, 1) := by decide +kernel
theorem dX2_removeHeap_6 : decode cX2_removeHeap 6 = .ok (.getfield 58, 3) := by decide +kernel
theorem dX2_removeHeap_9 : decode cX2_removeHeap 9 = .ok (.if_icmp .ge 15, 3) := by decide +kernel
theorem dX2_removeHeap_12 : decode cX2_removeHeap 12 = .ok (.aload_n 0, 1) := by decide +kernel
theorem dX2_removeHeap_13 : decode cX2_removeHeap 13 = .ok (.getfield 58, 3) := by decide +kernel
theorem dX2_removeHeap_16 : decode cX2_removeHeap 16 = .ok (.aload_n 0, 1) := by decide +kernel
theorem dX2_removeHeap_17 : decode cX2_removeHeap 17 = .ok (.getfield 20, 3) := by decide +kernel
theorem dX2_removeHeap_20 : decode cX2_removeHeap 20 = .ok (.arraylength, 1) := by decide +kernel
theorem dX2_removeHeap_21 : decode cX2_removeHeap 21 = .ok (.if_icmp .le 4, 3) := by decide +kernel
theorem dX2_removeHeap_24 : decode cX2_removeHeap 24 = .ok (.return_, 1) := by decide +kernel
theorem dX2_removeHeap_25 : decode cX2_removeHeap 25 = .ok (.iload_n 1, 1) := by decide +kernel
theorem dX2_removeHeap_26 : decode cX2_removeHeap 26 = .ok (.istore_n 2, 1) := by decide +kernel
theorem dX2_removeHeap_27 : decode cX2_removeHeap 27 = .ok (.iload_n 2, 1) := by decide +kernel
theorem dX2_removeHeap_28 : decode cX2_removeHeap 28 = .ok (.iconst 1, 1) := by decide +kernel
theorem dX2_removeHeap_29 : decode cX2_removeHeap 29 = .ok (.iadd, 1) := by decide +kernel
theorem dX2_removeHeap_30 : decode cX2_removeHeap 30 = .ok (.aload_n 0, 1) := by decide +kernel
theorem dX2_removeHeap_31 : decode cX2_removeHeap 31 = .ok (.getfield 58, 3) := by decide +kernel
theorem dX2_removeHeap_34 : decode cX2_removeHeap 34 = .ok (.if_icmp .ge 23, 3) := by decide +kernel
theorem dX2_removeHeap_37 : decode cX2_removeHeap 37 = .ok (.aload_n 0, 1) := by decide +kernel
theorem dX2_removeHeap_38 : decode cX2_removeHeap 38 = .ok (.getfield 20, 3) := by decide +kernel
theorem dX2_removeHeap_41 : decode cX2_removeHeap 41 = .ok (.iload_n 2, 1) := by decide +kernel
theorem dX2_removeHeap_42 : decode cX2_removeHeap 42 = .ok (.aload_n 0, 1) := by decide +kernel
theorem dX2_removeHeap_43 : decode cX2_removeHeap 43 = .ok (.getfield 20, 3) := by decide +kernel
theorem dX2_removeHeap_46 : decode cX2_removeHeap 46 = .ok (.iload_n 2, 1) := by decide +kernel
theorem dX2_removeHeap_47 : decode cX2_removeHeap 47 = .ok (.iconst 1, 1) := by decide +kernel
theorem dX2_removeHeap_48 : decode cX2_removeHeap 48 = .ok (.iadd, 1) := by decide +kernel
theorem dX2_removeHeap_49 : decode cX2_removeHeap 49 = .ok (.aaload, 1) := by decide +kernel
theorem dX2_removeHeap_50 : decode cX2_removeHeap 50 = .ok (.aastore, 1) := by decide +kernel
theorem dX2_removeHeap_51 : decode cX2_removeHeap 51 = .ok (.iinc 2 1, 3) := by decide +kernel
theorem dX2_removeHeap_54 : decode cX2_removeHeap 54 = .ok (.goto (-27), 3) := by decide +kernel
theorem dX2_removeHeap_57 : decode cX2_removeHeap 57 = .ok (.aload_n 0, 1) := by decide +kernel
theorem dX2_removeHeap_58 : decode cX2_removeHeap 58 = .ok (.dup, 1) := by decide +kernel
theorem dX2_removeHeap_59 : decode cX2_removeHeap 59 = .ok (.getfield 58, 3) := by decide +kernel
theorem dX2_removeHeap_62 : decode cX2_removeHeap 62 = .ok (.iconst 1, 1) := by decide +kernel
theorem dX2_removeHeap_63 : decode cX2_removeHeap 63 = .ok (.isub, 1) := by decide +kernel
theorem dX2_removeHeap_64 : decode cX2_removeHeap 64 = .ok (.putfield 58, 3) := by decide +kernel
theorem dX2_removeHeap_67 : decode cX2_removeHeap 67 = .ok (.aload_n 0, 1) := by decide +kernel
theorem dX2_removeHeap_68 : decode cX2_removeHeap 68 = .ok (.getfield 20, 3) := by decide +kernel
theorem dX2_removeHeap_71 : decode cX2_removeHeap 71 = .ok (.aload_n 0, 1) := by decide +kernel
theorem dX2_removeHeap_72 : decode cX2_removeHeap 72 = .ok (.getfield 58, 3) := by decide +kernel
theorem dX2_removeHeap_75 : decode cX2_removeHeap 75 = .ok (.aconst_null, 1) := by decide +kernel
theorem dX2_removeHeap_76 : decode cX2_removeHeap 76 = .ok (.aastore, 1) := by decide +kernel
theorem dX2_removeHeap_77 : decode cX2_removeHeap 77 = .ok (.return_, 1) := by decide +kernel

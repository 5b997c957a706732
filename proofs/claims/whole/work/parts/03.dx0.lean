theorem dX0_init_0 : decode cX0_init 0 = .ok (.aload_n 0, 1) := by decide +kernel
theorem dX0_init_1 : decode cX0_init 1 = .ok (.invokespecial 1, 3) := by decide +kernel
theorem dX0_init_4 : decode cX0_init 4 = .ok (.aload_n 0, 1) := by decide +kernel
theorem dX0_init_5 : decode cX0_init 5 = .ok (.bipush 8, 2) := by decide +kernel
theorem dX0_init_7 : decode cX0_init 7 = .ok (.newarray .int, 2) := by decide +kernel
theorem dX0_init_9 : decode cX0_init 9 = .ok (.putfield 9, 3) := by decide +kernel
theorem dX0_init_12 : decode cX0_init 12 = .ok (.aload_n 0, 1) := by decide +kernel
theorem dX0_init_13 : decode cX0_init 13 = .ok (.bipush 64, 2) := by decide +kernel
theorem dX0_init_15 : decode cX0_init 15 = .ok (.newarray .int, 2) := by decide +kernel
theorem dX0_init_17 : decode cX0_init 17 = .ok (.putfield 13, 3) := by decide +kernel
theorem dX0_init_20 : decode cX0_init 20 = .ok (.return_, 1) := by decide +kernel
set_option maxRecDepth 20000 in
theorem ggX0_open_X0_isDesk : GoodIn wsX0_open wsX0_isDesk := goodIn_r _ [5] (by decide +kernel) (by decide +kernel)
set_option maxRecDepth 20000 in
theorem gX0_open_X0_isDesk : GoodIn wsX0_open (va_wsS RX0 16 yX0_isDesk wsX0_isDesk) := goodIn_app (goodIn_of _ (by decide +kernel)) ggX0_open_X0_isDesk
set_option maxRecDepth 20000 in
theorem ggX0_open_X0_isThere : GoodIn wsX0_open wsX0_isThere := goodIn_r _ [9, 1, 2, 3, 4, 5, 15, 16, 17, 18, 19, 20, 21, 22, 23] (by decide +kernel) (by decide +kernel)
set_option maxRecDepth 20000 in
theorem gX0_open_X0_isThere : GoodIn wsX0_open (wsV RX0 20 RX0 yX0_isThere wsX0_isThere) := goodIn_app (goodIn_of _ (by decide +kernel)) ggX0_open_X0_isThere
set_option maxRecDepth 20000 in
theorem ggX0_open_X0_put : GoodIn wsX0_open wsX0_put := goodIn_r _ [13, 14, 15, 16, 17, 18, 19, 20, 21, 22, 23] (by decide +kernel) (by decide +kernel)
set_option maxRecDepth 20000 in
theorem gX0_open_X0_put : GoodIn wsX0_open (wsV RX0 23 RX0 yX0_put wsX0_put) := goodIn_app (goodIn_of _ (by decide +kernel)) ggX0_open_X0_put
theorem dX0_open_0 : decode cX0_open 0 = .ok (.iload_n 1, 1) := by decide +kernel
theorem dX0_open_1 : decode cX0_open 1 = .ok (.invokestatic 16, 3) := by decide +kernel
theorem dX0_open_4 : decode cX0_open 4 = .ok (.ifCond .eq 14, 3) := by decide +kernel
theorem dX0_open_7 : decode cX0_open 7 = .ok (.iload_n 2, 1) := by decide +kernel
theorem dX0_open_8 : decode cX0_open 8 = .ok (.iconst 1, 1) := by decide +kernel
theorem dX0_open_9 : decode cX0_open 9 = .ok (.if_icmp .lt 9, 3) := by decide +kernel
theorem dX0_open_12 : decode cX0_open 12 = .ok (.iload_n 2, 1) := by decide +kernel
theorem dX0_open_13 : decode cX0_open 13 = .ok (.bipush 8, 2) := by decide +kernel
theorem dX0_open_15 : decode cX0_open 15 = .ok (.if_icmp .le 6, 3) := by decide +kernel
theorem dX0_open_18 : decode cX0_open 18 = .ok (.bipush (-2), 2) := by decide +kernel
theorem dX0_open_20 : decode cX0_open 20 = .ok (.ireturn, 1) := by decide +kernel
theorem dX0_open_21 : decode cX0_open 21 = .ok (.aload_n 0, 1) := by decide +kernel
theorem dX0_open_22 : decode cX0_open 22 = .ok (.iload_n 1, 1) := by decide +kernel
theorem dX0_open_23 : decode cX0_open 23 = .ok (.invokevirtual 20, 3) := by decide +kernel
theorem dX0_open_26 : decode cX0_open 26 = .ok (.ifCond .eq 5, 3) := by decide +kernel
theorem dX0_open_29 : decode cX0_open 29 = .ok (.iconst 0, 1) := by decide +kernel
theorem dX0_open_30 : decode cX0_open 30 = .ok (.ireturn, 1) := by decide +kernel
theorem dX0_open_31 : decode cX0_open 31 = .ok (.aload_n 0, 1) := by decide +kernel
theorem dX0_open_32 : decode cX0_open 32 = .ok (.getfield 9, 3) := by decide +kernel
theorem dX0_open_35 : decode cX0_open 35 = .ok (.iload_n 1, 1) := by decide +kernel
theorem dX0_open_36 : decode cX0_open 36 = .ok (.iload_n 2, 1) := by decide +kernel
theorem dX0_open_37 : decode cX0_open 37 = .ok (.iastore, 1) := by decide +kernel
theorem dX0_open_38 : decode cX0_open 38 = .ok (.iconst 0, 1) := by decide +kernel
theorem dX0_open_39 : decode cX0_open 39 = .ok (.istore_n 3, 1) := by decide +kernel
theorem dX0_open_40 : decode cX0_open 40 = .ok (.iload_n 3, 1) := by decide +kernel
theorem dX0_open_41 : decode cX0_open 41 = .ok (.iload_n 2, 1) := by decide +kernel
theorem dX0_open_42 : decode cX0_open 42 = .ok (.if_icmp .ge 16, 3) := by decide +kernel
theorem dX0_open_45 : decode cX0_open 45 = .ok (.aload_n 0, 1) := by decide +kernel
theorem dX0_open_46 : decode cX0_open 46 = .ok (.iload_n 1, 1) := by decide +kernel
theorem dX0_open_47 : decode cX0_open 47 = .ok (.iload_n 3, 1) := by decide +kernel
theorem dX0_open_48 : decode cX0_open 48 = .ok (.iconst 0, 1) := by decide +kernel
theorem dX0_open_49 : decode cX0_open 49 = .ok (.invokevirtual 23, 3) := by decide +kernel
theorem dX0_open_52 : decode cX0_open 52 = .ok (.iinc 3 1, 3) := by decide +kernel
theorem dX0_open_55 : decode cX0_open 55 = .ok (.goto (-15), 3) := by decide +kernel
theorem dX0_open_58 : decode cX0_open 58 = .ok (.iconst 1, 1) := by decide +kernel
theorem dX0_open_59 : decode cX0_open 59 = .ok (.ireturn, 1) := by decide +kernel
set_option maxRecDepth 20000 in
theorem ggX0_close_X0_isDesk : GoodIn wsX0_close wsX0_isDesk := goodIn_r _ [5] (by decide +kernel) (by decide +kernel)
set_option maxRecDepth 20000 in
theorem gX0_close_X0_isDesk : GoodIn wsX0_close (va_wsS RX0 16 yX0_isDesk wsX0_isDesk) := goodIn_app (goodIn_of _ (by decide +kernel)) ggX0_close_X0_isDesk
set_option maxRecDepth 20000 in
theorem ggX0_close_X0_isThere : GoodIn wsX0_close wsX0_isThere := goodIn_r _ [9, 1, 2, 3, 4, 5, 10, 11, 12, 13, 14, 15, 16, 17, 18] (by decide +kernel) (by decide +kernel)
set_option maxRecDepth 20000 in
theorem gX0_close_X0_isThere : GoodIn wsX0_close (wsV RX0 20 RX0 yX0_isThere wsX0_isThere) := goodIn_app (goodIn_of _ (by decide +kernel)) ggX0_close_X0_isThere
theorem dX0_close_0 : decode cX0_close 0 = .ok (.iload_n 1, 1) := by decide +kernel
theorem dX0_close_1 : decode cX0_close 1 = .ok (.invokestatic 16, 3) := by decide +kernel
theorem dX0_close_4 : decode cX0_close 4 = .ok (.ifCond .ne 6, 3) := by decide +kernel
theorem dX0_close_7 : decode cX0_close 7 = .ok (.bipush (-2), 2) := by decide +kernel
theorem dX0_close_9 : decode cX0_close 9 = .ok (.ireturn, 1) := by decide +kernel
theorem dX0_close_10 : decode cX0_close 10 = .ok (.aload_n 0, 1) := by decide +kernel
theorem dX0_close_11 : decode cX0_close 11 = .ok (.iload_n 1, 1) := by decide +kernel
theorem dX0_close_12 : decode cX0_close 12 = .ok (.invokevirtual 20, 3) := by decide +kernel
theorem dX0_close_15 : decode cX0_close 15 = .ok (.ifCond .ne 5, 3) := by decide +kernel
theorem dX0_close_18 : decode cX0_close 18 = .ok (.iconst 0, 1) := by decide +kernel
theorem dX0_close_19 : decode cX0_close 19 = .ok (.ireturn, 1) := by decide +kernel
theorem dX0_close_20 : decode cX0_close 20 = .ok (.aload_n 0, 1) := by decide +kernel
theorem dX0_close_21 : decode cX0_close 21 = .ok (.getfield 9, 3) := by decide +kernel
theorem dX0_close_24 : decode cX0_close 24 = .ok (.iload_n 1, 1) := by decide +kernel
theorem dX0_close_25 : decode cX0_close 25 = .ok (.iconst 0, 1) := by decide +kernel
theorem dX0_close_26 : decode cX0_close 26 = .ok (.iastore, 1) := by decide +kernel
theorem dX0_close_27 : decode cX0_close 27 = .ok (.iconst 1, 1) := by decide +kernel
theorem dX0_close_28 : decode cX0_close 28 = .ok (.ireturn, 1) := by decide +kernel
set_option maxRecDepth 20000 in
theorem ggX0_write_X0_isDesk : GoodIn wsX0_write wsX0_isDesk := goodIn_r _ [4] (by decide +kernel) (by decide +kernel)
set_option maxRecDepth 20000 in
theorem gX0_write_X0_isDesk : GoodIn wsX0_write (va_wsS RX0 16 yX0_isDesk wsX0_isDesk) := goodIn_app (goodIn_of _ (by decide +kernel)) ggX0_write_X0_isDesk
set_option maxRecDepth 20000 in
theorem ggX0_write_X0_hold : GoodIn wsX0_write wsX0_hold := goodIn_r _ [8, 9, 10, 11, 12, 13, 14, 15, 16, 17, 18, 19, 3, 20, 21, 1, 2, 4, 47, 48, 49, 50, 51, 52, 53, 54, 55] (by decide +kernel) (by decide +kernel)
set_option maxRecDepth 20000 in
theorem gX0_write_X0_hold : GoodIn wsX0_write (wsV RX0 27 RX0 yX0_hold wsX0_hold) := goodIn_app (goodIn_of _ (by decide +kernel)) ggX0_write_X0_hold
set_option maxRecDepth 20000 in
theorem ggX0_write_X0_writeHeld : GoodIn wsX0_write wsX0_writeHeld := goodIn_r _ [25, 26, 27, 28, 3, 29, 21, 1, 2, 4, 30, 31, 32, 33, 34, 47, 48, 49, 50, 51, 52, 53, 54, 55] (by decide +kernel) (by decide +kernel)
set_option maxRecDepth 20000 in
theorem gX0_write_X0_writeHeld : GoodIn wsX0_write (wsV RX0 30 RX0 yX0_writeHeld wsX0_writeHeld) := goodIn_app (goodIn_of _ (by decide +kernel)) ggX0_write_X0_writeHeld
set_option maxRecDepth 20000 in
theorem ggX0_write_X0_release : GoodIn wsX0_write wsX0_release := goodIn_r _ [38, 39, 40, 41, 42, 3, 43, 11, 44, 45, 46, 47, 48, 49, 50, 51, 52, 53, 54, 55] (by decide +kernel) (by decide +kernel)
set_option maxRecDepth 20000 in
theorem gX0_write_X0_release : GoodIn wsX0_write (wsV RX0 34 RX0 yX0_release wsX0_release) := goodIn_app (goodIn_of _ (by decide +kernel)) ggX0_write_X0_release
theorem dX0_write_0 : decode cX0_write 0 = .ok (.iload_n 1, 1) := by decide +kernel
theorem dX0_write_1 : decode cX0_write 1 = .ok (.invokestatic 16, 3) := by decide +kernel
theorem dX0_write_4 : decode cX0_write 4 = .ok (.ifCond .ne 6, 3) := by decide +kernel
theorem dX0_write_7 : decode cX0_write 7 = .ok (.bipush (-2), 2) := by decide +kernel
theorem dX0_write_9 : decode cX0_write 9 = .ok (.ireturn, 1) := by decide +kernel
theorem dX0_write_10 : decode cX0_write 10 = .ok (.aload_n 0, 1) := by decide +kernel
theorem dX0_write_11 : decode cX0_write 11 = .ok (.iload_n 1, 1) := by decide +kernel
theorem dX0_write_12 : decode cX0_write 12 = .ok (.invokevirtual 27, 3) := by decide +kernel
theorem dX0_write_15 : decode cX0_write 15 = .ok (.ifCond .ne 6, 3) := by decide +kernel
theorem dX0_write_18 : decode cX0_write 18 = .ok (.bipush (-11), 2) := by decide +kernel
theorem dX0_write_20 : decode cX0_write 20 = .ok (.ireturn, 1) := by decide +kernel
theorem dX0_write_21 : decode cX0_write 21 = .ok (.aload_n 0, 1) := by decide +kernel
theorem dX0_write_22 : decode cX0_write 22 = .ok (.aload_n 0, 1) := by decide +kernel
theorem dX0_write_23 : decode cX0_write 23 = .ok (.iload_n 1, 1) := by decide +kernel
theorem dX0_write_24 : decode cX0_write 24 = .ok (.iload_n 2, 1) := by decide +kernel
theorem dX0_write_25 : decode cX0_write 25 = .ok (.iload_n 3, 1) := by decide +kernel
theorem dX0_write_26 : decode cX0_write 26 = .ok (.invokevirtual 30, 3) := by decide +kernel
theorem dX0_write_29 : decode cX0_write 29 = .ok (.invokevirtual 34, 3) := by decide +kernel
theorem dX0_write_32 : decode cX0_write 32 = .ok (.ireturn, 1) := by decide +kernel
set_option maxRecDepth 20000 in
theorem ggX0_share_X0_isDesk : GoodIn wsX0_share wsX0_isDesk := goodIn_r _ [4] (by decide +kernel) (by decide +kernel)
set_option maxRecDepth 20000 in
theorem gX0_share_X0_isDesk : GoodIn wsX0_share (va_wsS RX0 16 yX0_isDesk wsX0_isDesk) := goodIn_app (goodIn_of _ (by decide +kernel)) ggX0_share_X0_isDesk
set_option maxRecDepth 20000 in
theorem ggX0_share_X0_hold : GoodIn wsX0_share wsX0_hold := goodIn_r _ [8, 9, 10, 11, 12, 13, 14, 15, 16, 17, 18, 19, 3, 20, 21, 1, 2, 4, 55, 56, 57, 58, 59, 60, 61, 62, 63] (by decide +kernel) (by decide +kernel)
set_option maxRecDepth 20000 in
theorem gX0_share_X0_hold : GoodIn wsX0_share (wsV RX0 27 RX0 yX0_hold wsX0_hold) := goodIn_app (goodIn_of _ (by decide +kernel)) ggX0_share_X0_hold
set_option maxRecDepth 20000 in
theorem ggX0_share_X0_shareWithin : GoodIn wsX0_share wsX0_shareWithin := goodIn_r _ [25, 5, 6, 7, 3, 8, 9, 10, 11, 12, 13, 14, 15, 16, 17, 18, 19, 20, 21, 1, 2, 4, 26, 27, 28, 29, 30, 31, 32, 33, 34, 35, 36, 37, 38, 39, 40, 41, 42, 43, 44, 45, 46, 47, 48, 49, 50, 51, 52, 53, 54, 55, 56, 57, 58, 59, 60, 61, 62, 63] (by decide +kernel) (by decide +kernel)
set_option maxRecDepth 20000 in
theorem gX0_share_X0_shareWithin : GoodIn wsX0_share (wsV RX0 38 RX0 yX0_shareWithin wsX0_shareWithin) := goodIn_app (goodIn_of _ (by decide +kernel)) ggX0_share_X0_shareWithin
set_option maxRecDepth 20000 in
theorem ggX0_share_X0_release : GoodIn wsX0_share wsX0_release := goodIn_r _ [46, 47, 48, 49, 50, 3, 51, 11, 52, 53, 54, 55, 56, 57, 58, 59, 60, 61, 62, 63] (by decide +kernel) (by decide +kernel)
set_option maxRecDepth 20000 in
theorem gX0_share_X0_release : GoodIn wsX0_share (wsV RX0 34 RX0 yX0_release wsX0_release) := goodIn_app (goodIn_of _ (by decide +kernel)) ggX0_share_X0_release
theorem dX0_share_0 : decode cX0_share 0 = .ok (.iload_n 1, 1) := by decide +kernel
theorem dX0_share_1 : decode cX0_share 1 = .ok (.invokestatic 16, 3) := by decide +kernel
theorem dX0_share_4 : decode cX0_share 4 = .ok (.ifCond .eq 10, 3) := by decide +kernel
theorem dX0_share_7 : decode cX0_share 7 = .ok (.iload_n 2, 1) := by decide +kernel
theorem dX0_share_8 : decode cX0_share 8 = .ok (.invokestatic 16, 3) := by decide +kernel
theorem dX0_share_11 : decode cX0_share 11 = .ok (.ifCond .ne 6, 3) := by decide +kernel
theorem dX0_share_14 : decode cX0_share 14 = .ok (.bipush (-2), 2) := by decide +kernel
theorem dX0_share_16 : decode cX0_share 16 = .ok (.ireturn, 1) := by decide +kernel
theorem dX0_share_17 : decode cX0_share 17 = .ok (.aload_n 0, 1) := by decide +kernel
theorem dX0_share_18 : decode cX0_share 18 = .ok (.iload_n 1, 1) := by decide +kernel
theorem dX0_share_19 : decode cX0_share 19 = .ok (.invokevirtual 27, 3) := by decide +kernel
theorem dX0_share_22 : decode cX0_share 22 = .ok (.ifCond .ne 6, 3) := by decide +kernel
theorem dX0_share_25 : decode cX0_share 25 = .ok (.bipush (-11), 2) := by decide +kernel
theorem dX0_share_27 : decode cX0_share 27 = .ok (.ireturn, 1) := by decide +kernel
theorem dX0_share_28 : decode cX0_share 28 = .ok (.aload_n 0, 1) := by decide +kernel
theorem dX0_share_29 : decode cX0_share 29 = .ok (.aload_n 0, 1) := by decide +kernel
theorem dX0_share_30 : decode cX0_share 30 = .ok (.iload_n 1, 1) := by decide +kernel
theorem dX0_share_31 : decode cX0_share 31 = .ok (.iload_n 2, 1) := by decide +kernel
theorem dX0_share_32 : decode cX0_share 32 = .ok (.iload_n 3, 1) := by decide +kernel
theorem dX0_share_33 : decode cX0_share 33 = .ok (.invokevirtual 38, 3) := by decide +kernel
theorem dX0_share_36 : decode cX0_share 36 = .ok (.invokevirtual 34, 3) := by decide +kernel
theorem dX0_share_39 : decode cX0_share 39 = .ok (.ireturn, 1) := by decide +kernel
set_option maxRecDepth 20000 in
theorem ggX0_spread_X0_isDesk : GoodIn wsX0_spread wsX0_isDesk := goodIn_r _ [4] (by decide +kernel) (by decide +kernel)
set_option maxRecDepth 20000 in
theorem gX0_spread_X0_isDesk : GoodIn wsX0_spread (va_wsS RX0 16 yX0_isDesk wsX0_isDesk) := goodIn_app (goodIn_of _ (by decide +kernel)) ggX0_spread_X0_isDesk
set_option maxRecDepth 20000 in
theorem ggX0_spread_X0_hold : GoodIn wsX0_spread wsX0_hold := goodIn_r _ [8, 9, 10, 11, 12, 13, 14, 15, 16, 17, 18, 19, 3, 20, 21, 1, 2, 4, 59, 60, 61, 62, 63, 64, 65, 66, 67] (by decide +kernel) (by decide +kernel)
set_option maxRecDepth 20000 in
theorem gX0_spread_X0_hold : GoodIn wsX0_spread (wsV RX0 27 RX0 yX0_hold wsX0_hold) := goodIn_app (goodIn_of _ (by decide +kernel)) ggX0_spread_X0_hold
set_option maxRecDepth 20000 in
theorem ggX0_spread_X0_spreadWithin : GoodIn wsX0_spread wsX0_spreadWithin := goodIn_r _ [25, 21, 26, 27, 28, 3, 29, 5, 6, 7, 8, 9, 10, 11, 12, 13, 14, 15, 16, 17, 18, 19, 20, 1, 2, 4, 30, 31, 32, 33, 34, 35, 36, 37, 38, 39, 40, 41, 42, 43, 44, 45, 46, 47, 48, 49, 50, 51, 52, 53, 54, 55, 56, 57, 58, 59, 60, 61, 62, 63, 64, 65, 66, 67] (by decide +kernel) (by decide +kernel)
set_option maxRecDepth 20000 in
theorem gX0_spread_X0_spreadWithin : GoodIn wsX0_spread (wsV RX0 41 RX0 yX0_spreadWithin wsX0_spreadWithin) := goodIn_app (goodIn_of _ (by decide +kernel)) ggX0_spread_X0_spreadWithin
set_option maxRecDepth 20000 in
theorem ggX0_spread_X0_release : GoodIn wsX0_spread wsX0_release := goodIn_r _ [50, 51, 52, 53, 54, 3, 55, 11, 56, 57, 58, 59, 60, 61, 62, 63, 64, 65, 66, 67] (by decide +kernel) (by decide +kernel)
set_option maxRecDepth 20000 in
theorem gX0_spread_X0_release : GoodIn wsX0_spread (wsV RX0 34 RX0 yX0_release wsX0_release) := goodIn_app (goodIn_of _ (by decide +kernel)) ggX0_spread_X0_release
theorem dX0_spread_0 : decode cX0_spread 0 = .ok (.iload_n 1, 1) := by decide +kernel
theorem dX0_spread_1 : decode cX0_spread 1 = .ok (.invokestatic 16, 3) := by decide +kernel
theorem dX0_spread_4 : decode cX0_spread 4 = .ok (.ifCond .eq 10, 3) := by decide +kernel
theorem dX0_spread_7 : decode cX0_spread 7 = .ok (.iload_n 2, 1) := by decide +kernel
theorem dX0_spread_8 : decode cX0_spread 8 = .ok (.invokestatic 16, 3) := by decide +kernel
theorem dX0_spread_11 : decode cX0_spread 11 = .ok (.ifCond .ne 6, 3) := by decide +kernel
theorem dX0_spread_14 : decode cX0_spread 14 = .ok (.bipush (-2), 2) := by decide +kernel
theorem dX0_spread_16 : decode cX0_spread 16 = .ok (.ireturn, 1) := by decide +kernel
theorem dX0_spread_17 : decode cX0_spread 17 = .ok (.aload_n 0, 1) := by decide +kernel
theorem dX0_spread_18 : decode cX0_spread 18 = .ok (.iload_n 1, 1) := by decide +kernel
theorem dX0_spread_19 : decode cX0_spread 19 = .ok (.invokevirtual 27, 3) := by decide +kernel
theorem dX0_spread_22 : decode cX0_spread 22 = .ok (.ifCond .ne 6, 3) := by decide +kernel
theorem dX0_spread_25 : decode cX0_spread 25 = .ok (.bipush (-11), 2) := by decide +kernel
theorem dX0_spread_27 : decode cX0_spread 27 = .ok (.ireturn, 1) := by decide +kernel
theorem dX0_spread_28 : decode cX0_spread 28 = .ok (.aload_n 0, 1) := by decide +kernel
theorem dX0_spread_29 : decode cX0_spread 29 = .ok (.aload_n 0, 1) := by decide +kernel
theorem dX0_spread_30 : decode cX0_spread 30 = .ok (.iload_n 1, 1) := by decide +kernel
theorem dX0_spread_31 : decode cX0_spread 31 = .ok (.iload_n 2, 1) := by decide +kernel
theorem dX0_spread_32 : decode cX0_spread 32 = .ok (.invokevirtual 41, 3) := by decide +kernel
theorem dX0_spread_35 : decode cX0_spread 35 = .ok (.invokevirtual 34, 3) := by decide +kernel
theorem dX0_spread_38 : decode cX0_spread 38 = .ok (.ireturn, 1) := by decide +kernel
set_option maxRecDepth 20000 in
theorem ggX0_climb_X0_isDesk : GoodIn wsX0_climb wsX0_isDesk := goodIn_r _ [4] (by decide +kernel) (by decide +kernel)
set_option maxRecDepth 20000 in
theorem gX0_climb_X0_isDesk : GoodIn wsX0_climb (va_wsS RX0 16 yX0_isDesk wsX0_isDesk) := goodIn_app (goodIn_of _ (by decide +kernel)) ggX0_climb_X0_isDesk
set_option maxRecDepth 20000 in
theorem ggX0_climb_X0_climbFrom : GoodIn wsX0_climb wsX0_climbFrom := goodIn_r _ [8, 9, 10, 11, 3, 12, 13, 14, 15, 16, 17, 18, 19, 20, 21, 22, 23, 24, 25, 1, 2, 4, 26, 27, 28, 29, 30, 31, 32, 33, 34, 35, 36, 37, 38, 39, 40, 41, 42, 43, 44, 45, 46, 47, 48, 49, 50, 51, 52, 53, 54, 55, 5, 6, 7, 56, 57, 58, 59, 60, 61, 62, 63, 64] (by decide +kernel) (by decide +kernel)
set_option maxRecDepth 20000 in
theorem gX0_climb_X0_climbFrom : GoodIn wsX0_climb (wsV RX0 45 RX0 yX0_climbFrom wsX0_climbFrom) := goodIn_app (goodIn_of _ (by decide +kernel)) ggX0_climb_X0_climbFrom
theorem dX0_climb_0 : decode cX0_climb 0 = .ok (.iload_n 1, 1) := by decide +kernel
theorem dX0_climb_1 : decode cX0_climb 1 = .ok (.invokestatic 16, 3) := by decide +kernel
theorem dX0_climb_4 : decode cX0_climb 4 = .ok (.ifCond .eq 14, 3) := by decide +kernel
theorem dX0_climb_7 : decode cX0_climb 7 = .ok (.iload_n 2, 1) := by decide +kernel
theorem dX0_climb_8 : decode cX0_climb 8 = .ok (.iconst 1, 1) := by decide +kernel
theorem dX0_climb_9 : decode cX0_climb 9 = .ok (.if_icmp .lt 9, 3) := by decide +kernel
theorem dX0_climb_12 : decode cX0_climb 12 = .ok (.iload_n 2, 1) := by decide +kernel
theorem dX0_climb_13 : decode cX0_climb 13 = .ok (.bipush 12, 2) := by decide +kernel
theorem dX0_climb_15 : decode cX0_climb 15 = .ok (.if_icmp .le 6, 3) := by decide +kernel
theorem dX0_climb_18 : decode cX0_climb 18 = .ok (.bipush (-2), 2) := by decide +kernel
theorem dX0_climb_20 : decode cX0_climb 20 = .ok (.ireturn, 1) := by decide +kernel
theorem dX0_climb_21 : decode cX0_climb 21 = .ok (.aload_n 0, 1) := by decide +kernel
theorem dX0_climb_22 : decode cX0_climb 22 = .ok (.iload_n 1, 1) := by decide +kernel
theorem dX0_climb_23 : decode cX0_climb 23 = .ok (.iconst 0, 1) := by decide +kernel
theorem dX0_climb_24 : decode cX0_climb 24 = .ok (.iload_n 2, 1) := by decide +kernel
theorem dX0_climb_25 : decode cX0_climb 25 = .ok (.invokevirtual 45, 3) := by decide +kernel
theorem dX0_climb_28 : decode cX0_climb 28 = .ok (.ireturn, 1) := by decide +kernel
set_option maxRecDepth 20000 in
theorem ggX0_find_X0_isThere : GoodIn wsX0_find wsX0_isThere := goodIn_r _ [5, 6, 7, 8, 4, 9, 43, 44, 45, 46, 47, 48, 49, 50, 51] (by decide +kernel) (by decide +kernel)
set_option maxRecDepth 20000 in
theorem gX0_find_X0_isThere : GoodIn wsX0_find (wsV RX0 20 RX0 yX0_isThere wsX0_isThere) := goodIn_app (goodIn_of _ (by decide +kernel)) ggX0_find_X0_isThere
set_option maxRecDepth 20000 in
theorem ggX0_find_X0_hold : GoodIn wsX0_find wsX0_hold := goodIn_r _ [13, 14, 15, 16, 17, 18, 19, 20, 21, 1, 2, 3, 4, 5, 6, 7, 8, 9, 43, 44, 45, 46, 47, 48, 49, 50, 51] (by decide +kernel) (by decide +kernel)
set_option maxRecDepth 20000 in
theorem gX0_find_X0_hold : GoodIn wsX0_find (wsV RX0 27 RX0 yX0_hold wsX0_hold) := goodIn_app (goodIn_of _ (by decide +kernel)) ggX0_find_X0_hold
set_option maxRecDepth 20000 in
theorem ggX0_find_X0_placeOf : GoodIn wsX0_find wsX0_placeOf := goodIn_r _ [25, 6, 26, 27, 28, 4, 29, 30, 43, 44, 45, 46, 47, 48, 49, 50, 51] (by decide +kernel) (by decide +kernel)
set_option maxRecDepth 20000 in
theorem gX0_find_X0_placeOf : GoodIn wsX0_find (wsV RX0 48 RX0 yX0_placeOf wsX0_placeOf) := goodIn_app (goodIn_of _ (by decide +kernel)) ggX0_find_X0_placeOf
set_option maxRecDepth 20000 in
theorem ggX0_find_X0_release : GoodIn wsX0_find wsX0_release := goodIn_r _ [34, 35, 36, 37, 38, 4, 39, 16, 40, 41, 42, 43, 44, 45, 46, 47, 48, 49, 50, 51] (by decide +kernel) (by decide +kernel)
set_option maxRecDepth 20000 in
theorem gX0_find_X0_release : GoodIn wsX0_find (wsV RX0 34 RX0 yX0_release wsX0_release) := goodIn_app (goodIn_of _ (by decide +kernel)) ggX0_find_X0_release
theorem dX0_find_0 : decode cX0_find 0 = .ok (.iconst 0, 1) := by decide +kernel
theorem dX0_find_1 : decode cX0_find 1 = .ok (.istore_n 2, 1) := by decide +kernel
theorem dX0_find_2 : decode cX0_find 2 = .ok (.iload_n 2, 1) := by decide +kernel
theorem dX0_find_3 : decode cX0_find 3 = .ok (.bipush 8, 2) := by decide +kernel
theorem dX0_find_5 : decode cX0_find 5 = .ok (.if_icmp .ge 48, 3) := by decide +kernel
theorem dX0_find_8 : decode cX0_find 8 = .ok (.aload_n 0, 1) := by decide +kernel
theorem dX0_find_9 : decode cX0_find 9 = .ok (.iload_n 2, 1) := by decide +kernel
theorem dX0_find_10 : decode cX0_find 10 = .ok (.invokevirtual 20, 3) := by decide +kernel
theorem dX0_find_13 : decode cX0_find 13 = .ok (.ifCond .eq 34, 3) := by decide +kernel
theorem dX0_find_16 : decode cX0_find 16 = .ok (.aload_n 0, 1) := by decide +kernel
theorem dX0_find_17 : decode cX0_find 17 = .ok (.iload_n 2, 1) := by decide +kernel
theorem dX0_find_18 : decode cX0_find 18 = .ok (.invokevirtual 27, 3) := by decide +kernel
theorem dX0_find_21 : decode cX0_find 21 = .ok (.ifCond .eq 26, 3) := by decide +kernel
theorem dX0_find_24 : decode cX0_find 24 = .ok (.aload_n 0, 1) := by decide +kernel
theorem dX0_find_25 : decode cX0_find 25 = .ok (.aload_n 0, 1) := by decide +kernel
theorem dX0_find_26 : decode cX0_find 26 = .ok (.iload_n 2, 1) := by decide +kernel
theorem dX0_find_27 : decode cX0_find 27 = .ok (.iload_n 1, 1) := by decide +kernel
theorem dX0_find_28 : decode cX0_find 28 = .ok (.invokevirtual 48, 3) := by decide +kernel
theorem dX0_find_31 : decode cX0_find 31 = .ok (.invokevirtual 34, 3) := by decide +kernel
theorem dX0_find_34 : decode cX0_find 34 = .ok (.istore_n 3, 1) := by decide +kernel
theorem dX0_find_35 : decode cX0_find 35 = .ok (.iload_n 3, 1) := by decide +kernel
theorem dX0_find_36 : decode cX0_find 36 = .ok (.iconst (-1), 1) := by decide +kernel
theorem dX0_find_37 : decode cX0_find 37 = .ok (.if_icmp .eq 10, 3) := by decide +kernel
theorem dX0_find_40 : decode cX0_find 40 = .ok (.bipush 8, 2) := by decide +kernel
theorem dX0_find_42 : decode cX0_find 42 = .ok (.iload_n 2, 1) := by decide +kernel
theorem dX0_find_43 : decode cX0_find 43 = .ok (.imul, 1) := by decide +kernel
theorem dX0_find_44 : decode cX0_find 44 = .ok (.iload_n 3, 1) := by decide +kernel
theorem dX0_find_45 : decode cX0_find 45 = .ok (.iadd, 1) := by decide +kernel
theorem dX0_find_46 : decode cX0_find 46 = .ok (.ireturn, 1) := by decide +kernel
theorem dX0_find_47 : decode cX0_find 47 = .ok (.iinc 2 1, 3) := by decide +kernel
theorem dX0_find_50 : decode cX0_find 50 = .ok (.goto (-48), 3) := by decide +kernel
theorem dX0_find_53 : decode cX0_find 53 = .ok (.iconst (-1), 1) := by decide +kernel
theorem dX0_find_54 : decode cX0_find 54 = .ok (.ireturn, 1) := by decide +kernel
set_option maxRecDepth 20000 in
theorem ggX0_rounds_X0_moveHand : GoodIn wsX0_rounds wsX0_moveHand := goodIn_r _ [6, 1, 44, 45, 46, 47, 48, 49, 50, 51, 52] (by decide +kernel) (by decide +kernel)
set_option maxRecDepth 20000 in
theorem gX0_rounds_X0_moveHand : GoodIn wsX0_rounds (wsV RX0 51 RX0 yX0_moveHand wsX0_moveHand) := goodIn_app (goodIn_of _ (by decide +kernel)) ggX0_rounds_X0_moveHand
set_option maxRecDepth 20000 in
theorem ggX0_rounds_X0_hold : GoodIn wsX0_rounds wsX0_hold := goodIn_r _ [10, 11, 12, 13, 14, 15, 16, 17, 18, 19, 20, 21, 5, 22, 23, 24, 25, 26, 44, 45, 46, 47, 48, 49, 50, 51, 52] (by decide +kernel) (by decide +kernel)
set_option maxRecDepth 20000 in
theorem gX0_rounds_X0_hold : GoodIn wsX0_rounds (wsV RX0 27 RX0 yX0_hold wsX0_hold) := goodIn_app (goodIn_of _ (by decide +kernel)) ggX0_rounds_X0_hold
set_option maxRecDepth 20000 in
theorem ggX0_rounds_X0_raiseAtHand : GoodIn wsX0_rounds wsX0_raiseAtHand := goodIn_r _ [30, 1, 31, 32, 33, 5, 34, 35, 36, 37, 38, 39, 2, 3, 4, 6, 44, 45, 46, 47, 48, 49, 50, 51, 52] (by decide +kernel) (by decide +kernel)
set_option maxRecDepth 20000 in
theorem gX0_rounds_X0_raiseAtHand : GoodIn wsX0_rounds (wsV RX0 58 RX0 yX0_raiseAtHand wsX0_raiseAtHand) := goodIn_app (goodIn_of _ (by decide +kernel)) ggX0_rounds_X0_raiseAtHand
set_option maxRecDepth 20000 in
theorem ggX0_rounds_X0_letGo : GoodIn wsX0_rounds wsX0_letGo := goodIn_r _ [43, 13, 44, 45, 46, 47, 48, 49, 50, 51, 52] (by decide +kernel) (by decide +kernel)
set_option maxRecDepth 20000 in
theorem gX0_rounds_X0_letGo : GoodIn wsX0_rounds (wsV RX0 62 RX0 yX0_letGo wsX0_letGo) := goodIn_app (goodIn_of _ (by decide +kernel)) ggX0_rounds_X0_letGo
theorem dX0_rounds_0 : decode cX0_rounds 0 = .ok (.iload_n 1, 1) := by decide +kernel
theorem dX0_rounds_1 : decode cX0_rounds 1 = .ok (.iconst 1, 1) := by decide +kernel
theorem dX0_rounds_2 : decode cX0_rounds 2 = .ok (.if_icmp .lt 9, 3) := by decide +kernel
theorem dX0_rounds_5 : decode cX0_rounds 5 = .ok (.iload_n 1, 1) := by decide +kernel
theorem dX0_rounds_6 : decode cX0_rounds 6 = .ok (.bipush 20, 2) := by decide +kernel
theorem dX0_rounds_8 : decode cX0_rounds 8 = .ok (.if_icmp .le 6, 3) := by decide +kernel
theorem dX0_rounds_11 : decode cX0_rounds 11 = .ok (.bipush (-2), 2) := by decide +kernel
theorem dX0_rounds_13 : decode cX0_rounds 13 = .ok (.ireturn, 1) := by decide +kernel
theorem dX0_rounds_14 : decode cX0_rounds 14 = .ok (.iconst 0, 1) := by decide +kernel
theorem dX0_rounds_15 : decode cX0_rounds 15 = .ok (.istore_n 3, 1) := by decide +kernel
theorem dX0_rounds_16 : decode cX0_rounds 16 = .ok (.iconst 0, 1) := by decide +kernel
theorem dX0_rounds_17 : decode cX0_rounds 17 = .ok (.istore 4, 2) := by decide +kernel
theorem dX0_rounds_19 : decode cX0_rounds 19 = .ok (.iload 4, 2) := by decide +kernel
theorem dX0_rounds_21 : decode cX0_rounds 21 = .ok (.iload_n 1, 1) := by decide +kernel
theorem dX0_rounds_22 : decode cX0_rounds 22 = .ok (.if_icmp .ge 54, 3) := by decide +kernel
theorem dX0_rounds_25 : decode cX0_rounds 25 = .ok (.aload_n 0, 1) := by decide +kernel
theorem dX0_rounds_26 : decode cX0_rounds 26 = .ok (.invokevirtual 51, 3) := by decide +kernel
theorem dX0_rounds_29 : decode cX0_rounds 29 = .ok (.aload_n 0, 1) := by decide +kernel
theorem dX0_rounds_30 : decode cX0_rounds 30 = .ok (.aload_n 0, 1) := by decide +kernel
theorem dX0_rounds_31 : decode cX0_rounds 31 = .ok (.getfield 54, 3) := by decide +kernel
theorem dX0_rounds_34 : decode cX0_rounds 34 = .ok (.invokevirtual 27, 3) := by decide +kernel
theorem dX0_rounds_37 : decode cX0_rounds 37 = .ok (.ifCond .eq 26, 3) := by decide +kernel
theorem dX0_rounds_40 : decode cX0_rounds 40 = .ok (.iinc 3 1, 3) := by decide +kernel
theorem dX0_rounds_43 : decode cX0_rounds 43 = .ok (.aload_n 0, 1) := by decide +kernel
theorem dX0_rounds_44 : decode cX0_rounds 44 = .ok (.invokevirtual 58, 3) := by decide +kernel
theorem dX0_rounds_47 : decode cX0_rounds 47 = .ok (.istore 5, 2) := by decide +kernel
theorem dX0_rounds_49 : decode cX0_rounds 49 = .ok (.aload_n 0, 1) := by decide +kernel
theorem dX0_rounds_50 : decode cX0_rounds 50 = .ok (.invokevirtual 62, 3) := by decide +kernel
theorem dX0_rounds_53 : decode cX0_rounds 53 = .ok (.iload 5, 2) := by decide +kernel
theorem dX0_rounds_55 : decode cX0_rounds 55 = .ok (.ifCond .eq 5, 3) := by decide +kernel
theorem dX0_rounds_58 : decode cX0_rounds 58 = .ok (.iload_n 3, 1) := by decide +kernel
theorem dX0_rounds_59 : decode cX0_rounds 59 = .ok (.ireturn, 1) := by decide +kernel
theorem dX0_rounds_60 : decode cX0_rounds 60 = .ok (.goto 10, 3) := by decide +kernel
theorem dX0_rounds_63 : decode cX0_rounds 63 = .ok (.iload_n 2, 1) := by decide +kernel
theorem dX0_rounds_64 : decode cX0_rounds 64 = .ok (.ifCond .ne 6, 3) := by decide +kernel
theorem dX0_rounds_67 : decode cX0_rounds 67 = .ok (.bipush (-11), 2) := by decide +kernel
theorem dX0_rounds_69 : decode cX0_rounds 69 = .ok (.ireturn, 1) := by decide +kernel
theorem dX0_rounds_70 : decode cX0_rounds 70 = .ok (.iinc 4 1, 3) := by decide +kernel
theorem dX0_rounds_73 : decode cX0_rounds 73 = .ok (.goto (-54), 3) := by decide +kernel
theorem dX0_rounds_76 : decode cX0_rounds 76 = .ok (.iload_n 3, 1) := by decide +kernel
theorem dX0_rounds_77 : decode cX0_rounds 77 = .ok (.ireturn, 1) := by decide +kernel
set_option maxRecDepth 20000 in
theorem ggX0_bring_X0_isDesk : GoodIn wsX0_bring wsX0_isDesk := goodIn_r _ [4] (by decide +kernel) (by decide +kernel)
set_option maxRecDepth 20000 in
theorem gX0_bring_X0_isDesk : GoodIn wsX0_bring (va_wsS RX0 16 yX0_isDesk wsX0_isDesk) := goodIn_app (goodIn_of _ (by decide +kernel)) ggX0_bring_X0_isDesk
set_option maxRecDepth 20000 in
theorem ggX0_bring_X0_hold : GoodIn wsX0_bring wsX0_hold := goodIn_r _ [8, 9, 10, 11, 12, 13, 14, 15, 16, 17, 18, 19, 3, 20, 21, 1, 2, 4, 48, 49, 50, 51, 52, 53, 54, 55, 56] (by decide +kernel) (by decide +kernel)
set_option maxRecDepth 20000 in
theorem gX0_bring_X0_hold : GoodIn wsX0_bring (wsV RX0 27 RX0 yX0_hold wsX0_hold) := goodIn_app (goodIn_of _ (by decide +kernel)) ggX0_bring_X0_hold
set_option maxRecDepth 20000 in
theorem ggX0_bring_X0_bringHeld : GoodIn wsX0_bring wsX0_bringHeld := goodIn_r _ [25, 21, 26, 27, 28, 29, 3, 30, 31, 32, 33, 34, 35, 48, 49, 50, 51, 52, 53, 54, 55, 56] (by decide +kernel) (by decide +kernel)
set_option maxRecDepth 20000 in
theorem gX0_bring_X0_bringHeld : GoodIn wsX0_bring (wsV RX0 65 RX0 yX0_bringHeld wsX0_bringHeld) := goodIn_app (goodIn_of _ (by decide +kernel)) ggX0_bring_X0_bringHeld
set_option maxRecDepth 20000 in
theorem ggX0_bring_X0_release : GoodIn wsX0_bring wsX0_release := goodIn_r _ [39, 40, 41, 42, 43, 3, 44, 11, 45, 46, 47, 48, 49, 50, 51, 52, 53, 54, 55, 56] (by decide +kernel) (by decide +kernel)
set_option maxRecDepth 20000 in
theorem gX0_bring_X0_release : GoodIn wsX0_bring (wsV RX0 34 RX0 yX0_release wsX0_release) := goodIn_app (goodIn_of _ (by decide +kernel)) ggX0_bring_X0_release
theorem dX0_bring_0 : decode cX0_bring 0 = .ok (.iload_n 1, 1) := by decide +kernel
theorem dX0_bring_1 : decode cX0_bring 1 = .ok (.invokestatic 16, 3) := by decide +kernel
theorem dX0_bring_4 : decode cX0_bring 4 = .ok (.ifCond .ne 6, 3) := by decide +kernel
theorem dX0_bring_7 : decode cX0_bring 7 = .ok (.bipush (-2), 2) := by decide +kernel
theorem dX0_bring_9 : decode cX0_bring 9 = .ok (.ireturn, 1) := by decide +kernel
theorem dX0_bring_10 : decode cX0_bring 10 = .ok (.aload_n 0, 1) := by decide +kernel
theorem dX0_bring_11 : decode cX0_bring 11 = .ok (.iload_n 1, 1) := by decide +kernel
theorem dX0_bring_12 : decode cX0_bring 12 = .ok (.invokevirtual 27, 3) := by decide +kernel
theorem dX0_bring_15 : decode cX0_bring 15 = .ok (.ifCond .ne 6, 3) := by decide +kernel
theorem dX0_bring_18 : decode cX0_bring 18 = .ok (.bipush (-11), 2) := by decide +kernel
theorem dX0_bring_20 : decode cX0_bring 20 = .ok (.ireturn, 1) := by decide +kernel
theorem dX0_bring_21 : decode cX0_bring 21 = .ok (.aload_n 0, 1) := by decide +kernel
theorem dX0_bring_22 : decode cX0_bring 22 = .ok (.aload_n 0, 1) := by decide +kernel
theorem dX0_bring_23 : decode cX0_bring 23 = .ok (.iload_n 1, 1) := by decide +kernel
theorem dX0_bring_24 : decode cX0_bring 24 = .ok (.iload_n 2, 1) := by decide +kernel
theorem dX0_bring_25 : decode cX0_bring 25 = .ok (.invokevirtual 65, 3) := by decide +kernel
theorem dX0_bring_28 : decode cX0_bring 28 = .ok (.invokevirtual 34, 3) := by decide +kernel
theorem dX0_bring_31 : decode cX0_bring 31 = .ok (.ireturn, 1) := by decide +kernel
set_option maxRecDepth 20000 in
theorem ggX0_number_X0_hasPlace : GoodIn wsX0_number wsX0_hasPlace := goodIn_r _ [6, 7, 8, 9, 5, 10, 16, 17, 18, 19, 20, 21, 22, 23, 24] (by decide +kernel) (by decide +kernel)
set_option maxRecDepth 20000 in
theorem gX0_number_X0_hasPlace : GoodIn wsX0_number (wsV RX0 69 RX0 yX0_hasPlace wsX0_hasPlace) := goodIn_app (goodIn_of _ (by decide +kernel)) ggX0_number_X0_hasPlace
set_option maxRecDepth 20000 in
theorem ggX0_number_X0_at : GoodIn wsX0_number wsX0_at := goodIn_r _ [14, 15, 16, 17, 18, 19, 20, 21, 22, 23, 24] (by decide +kernel) (by decide +kernel)
set_option maxRecDepth 20000 in
theorem gX0_number_X0_at : GoodIn wsX0_number (wsV RX0 73 RX0 yX0_at wsX0_at) := goodIn_app (goodIn_of _ (by decide +kernel)) ggX0_number_X0_at
theorem dX0_number_0 : decode cX0_number 0 = .ok (.aload_n 0, 1) := by decide +kernel
theorem dX0_number_1 : decode cX0_number 1 = .ok (.iload_n 1, 1) := by decide +kernel
theorem dX0_number_2 : decode cX0_number 2 = .ok (.iload_n 2, 1) := by decide +kernel
theorem dX0_number_3 : decode cX0_number 3 = .ok (.invokevirtual 69, 3) := by decide +kernel
theorem dX0_number_6 : decode cX0_number 6 = .ok (.ifCond .eq 13, 3) := by decide +kernel
theorem dX0_number_9 : decode cX0_number 9 = .ok (.aload_n 0, 1) := by decide +kernel
theorem dX0_number_10 : decode cX0_number 10 = .ok (.iload_n 1, 1) := by decide +kernel
theorem dX0_number_11 : decode cX0_number 11 = .ok (.iload_n 2, 1) := by decide +kernel
theorem dX0_number_12 : decode cX0_number 12 = .ok (.invokevirtual 73, 3) := by decide +kernel
theorem dX0_number_15 : decode cX0_number 15 = .ok (.i2l, 1) := by decide +kernel
theorem dX0_number_16 : decode cX0_number 16 = .ok (.goto 6, 3) := by decide +kernel
theorem dX0_number_19 : decode cX0_number 19 = .ok (.ldc2_w 76, 3) := by decide +kernel
theorem dX0_number_22 : decode cX0_number 22 = .ok (.lreturn, 1) := by decide +kernel
set_option maxRecDepth 20000 in
theorem ggX0_told_X0_countThere : GoodIn wsX0_told wsX0_countThere := goodIn_r _ [13, 14, 15, 16, 12, 17, 18, 19, 20, 21, 22, 23, 24, 25, 26, 27, 28, 29, 30] (by decide +kernel) (by decide +kernel)
set_option maxRecDepth 20000 in
theorem gX0_told_X0_countThere : GoodIn wsX0_told (wsV RX0 93 RX0 yX0_countThere wsX0_countThere) := goodIn_app (goodIn_of _ (by decide +kernel)) ggX0_told_X0_countThere
theorem dX0_told_0 : decode cX0_told 0 = .ok (.iload_n 1, 1) := by decide +kernel
theorem dX0_told_1 : decode cX0_told 1 = .ok (.tableswitch 94 0 7 #[47, 53, 59, 65, 71, 77, 83, 89], 47) := by decide +kernel
theorem dX0_told_48 : decode cX0_told 48 = .ok (.aload_n 0, 1) := by decide +kernel
theorem dX0_told_49 : decode cX0_told 49 = .ok (.getfield 78, 3) := by decide +kernel
theorem dX0_told_52 : decode cX0_told 52 = .ok (.i2l, 1) := by decide +kernel
theorem dX0_told_53 : decode cX0_told 53 = .ok (.lreturn, 1) := by decide +kernel
theorem dX0_told_54 : decode cX0_told 54 = .ok (.aload_n 0, 1) := by decide +kernel
theorem dX0_told_55 : decode cX0_told 55 = .ok (.getfield 81, 3) := by decide +kernel
theorem dX0_told_58 : decode cX0_told 58 = .ok (.i2l, 1) := by decide +kernel
theorem dX0_told_59 : decode cX0_told 59 = .ok (.lreturn, 1) := by decide +kernel
theorem dX0_told_60 : decode cX0_told 60 = .ok (.aload_n 0, 1) := by decide +kernel
theorem dX0_told_61 : decode cX0_told 61 = .ok (.getfield 84, 3) := by decide +kernel
theorem dX0_told_64 : decode cX0_told 64 = .ok (.i2l, 1) := by decide +kernel
theorem dX0_told_65 : decode cX0_told 65 = .ok (.lreturn, 1) := by decide +kernel
theorem dX0_told_66 : decode cX0_told 66 = .ok (.aload_n 0, 1) := by decide +kernel
theorem dX0_told_67 : decode cX0_told 67 = .ok (.getfield 87, 3) := by decide +kernel
theorem dX0_told_70 : decode cX0_told 70 = .ok (.i2l, 1) := by decide +kernel
theorem dX0_told_71 : decode cX0_told 71 = .ok (.lreturn, 1) := by decide +kernel
theorem dX0_told_72 : decode cX0_told 72 = .ok (.aload_n 0, 1) := by decide +kernel
theorem dX0_told_73 : decode cX0_told 73 = .ok (.getfield 90, 3) := by decide +kernel
theorem dX0_told_76 : decode cX0_told 76 = .ok (.i2l, 1) := by decide +kernel
theorem dX0_told_77 : decode cX0_told 77 = .ok (.lreturn, 1) := by decide +kernel
theorem dX0_told_78 : decode cX0_told 78 = .ok (.aload_n 0, 1) := by decide +kernel
theorem dX0_told_79 : decode cX0_told 79 = .ok (.getfield 54, 3) := by decide +kernel
theorem dX0_told_82 : decode cX0_told 82 = .ok (.i2l, 1) := by decide +kernel
theorem dX0_told_83 : decode cX0_told 83 = .ok (.lreturn, 1) := by decide +kernel
theorem dX0_told_84 : decode cX0_told 84 = .ok (.aload_n 0, 1) := by decide +kernel
theorem dX0_told_85 : decode cX0_told 85 = .ok (.invokevirtual 93, 3) := by decide +kernel
theorem dX0_told_88 : decode cX0_told 88 = .ok (.i2l, 1) := by decide +kernel
theorem dX0_told_89 : decode cX0_told 89 = .ok (.lreturn, 1) := by decide +kernel
theorem dX0_told_90 : decode cX0_told 90 = .ok (.aload_n 0, 1) := by decide +kernel
theorem dX0_told_91 : decode cX0_told 91 = .ok (.getfield 97, 3) := by decide +kernel
theorem dX0_told_94 : decode cX0_told 94 = .ok (.lreturn, 1) := by decide +kernel
theorem dX0_told_95 : decode cX0_told 95 = .ok (.ldc2_w 101, 3) := by decide +kernel
theorem dX0_told_98 : decode cX0_told 98 = .ok (.lreturn, 1) := by decide +kernel
set_option maxRecDepth 20000 in
theorem ggX0_writeHeld_X0_hasPlace : GoodIn wsX0_writeHeld wsX0_hasPlace := goodIn_r _ [5, 6, 7, 8, 4, 9, 15, 16, 17, 18, 19, 20, 21, 22, 23] (by decide +kernel) (by decide +kernel)
set_option maxRecDepth 20000 in
theorem gX0_writeHeld_X0_hasPlace : GoodIn wsX0_writeHeld (wsV RX0 69 RX0 yX0_hasPlace wsX0_hasPlace) := goodIn_app (goodIn_of _ (by decide +kernel)) ggX0_writeHeld_X0_hasPlace
set_option maxRecDepth 20000 in
theorem ggX0_writeHeld_X0_put : GoodIn wsX0_writeHeld wsX0_put := goodIn_r _ [13, 14, 15, 16, 17, 18, 19, 20, 21, 22, 23] (by decide +kernel) (by decide +kernel)
set_option maxRecDepth 20000 in
theorem gX0_writeHeld_X0_put : GoodIn wsX0_writeHeld (wsV RX0 23 RX0 yX0_put wsX0_put) := goodIn_app (goodIn_of _ (by decide +kernel)) ggX0_writeHeld_X0_put
theorem dX0_writeHeld_0 : decode cX0_writeHeld 0 = .ok (.aload_n 0, 1) := by decide +kernel
theorem dX0_writeHeld_1 : decode cX0_writeHeld 1 = .ok (.iload_n 1, 1) := by decide +kernel
theorem dX0_writeHeld_2 : decode cX0_writeHeld 2 = .ok (.iload_n 2, 1) := by decide +kernel
theorem dX0_writeHeld_3 : decode cX0_writeHeld 3 = .ok (.invokevirtual 69, 3) := by decide +kernel
theorem dX0_writeHeld_6 : decode cX0_writeHeld 6 = .ok (.ifCond .ne 6, 3) := by decide +kernel
theorem dX0_writeHeld_9 : decode cX0_writeHeld 9 = .ok (.bipush (-12), 2) := by decide +kernel
theorem dX0_writeHeld_11 : decode cX0_writeHeld 11 = .ok (.ireturn, 1) := by decide +kernel
theorem dX0_writeHeld_12 : decode cX0_writeHeld 12 = .ok (.aload_n 0, 1) := by decide +kernel
theorem dX0_writeHeld_13 : decode cX0_writeHeld 13 = .ok (.iload_n 1, 1) := by decide +kernel
theorem dX0_writeHeld_14 : decode cX0_writeHeld 14 = .ok (.iload_n 2, 1) := by decide +kernel
theorem dX0_writeHeld_15 : decode cX0_writeHeld 15 = .ok (.iload_n 3, 1) := by decide +kernel
theorem dX0_writeHeld_16 : decode cX0_writeHeld 16 = .ok (.invokevirtual 23, 3) := by decide +kernel
theorem dX0_writeHeld_19 : decode cX0_writeHeld 19 = .ok (.iconst 1, 1) := by decide +kernel
theorem dX0_writeHeld_20 : decode cX0_writeHeld 20 = .ok (.ireturn, 1) := by decide +kernel
set_option maxRecDepth 20000 in
theorem ggX0_shareWithin_X0_hold : GoodIn wsX0_shareWithin wsX0_hold := goodIn_r _ [5, 6, 7, 8, 9, 10, 11, 12, 13, 14, 15, 16, 4, 17, 18, 19, 20, 21, 51, 52, 53, 54, 55, 56, 57, 58, 59] (by decide +kernel) (by decide +kernel)
set_option maxRecDepth 20000 in
theorem gX0_shareWithin_X0_hold : GoodIn wsX0_shareWithin (wsV RX0 27 RX0 yX0_hold wsX0_hold) := goodIn_app (goodIn_of _ (by decide +kernel)) ggX0_shareWithin_X0_hold
set_option maxRecDepth 20000 in
theorem ggX0_shareWithin_X0_divideEach : GoodIn wsX0_shareWithin wsX0_divideEach := goodIn_r _ [25, 18, 26, 27, 28, 4, 29, 19, 20, 21, 30, 31, 32, 33, 34, 35, 36, 37, 38, 51, 52, 53, 54, 55, 56, 57, 58, 59] (by decide +kernel) (by decide +kernel)
set_option maxRecDepth 20000 in
theorem gX0_shareWithin_X0_divideEach : GoodIn wsX0_shareWithin (wsV RX0 103 RX0 yX0_divideEach wsX0_divideEach) := goodIn_app (goodIn_of _ (by decide +kernel)) ggX0_shareWithin_X0_divideEach
set_option maxRecDepth 20000 in
theorem ggX0_shareWithin_X0_release : GoodIn wsX0_shareWithin wsX0_release := goodIn_r _ [42, 43, 44, 45, 46, 4, 47, 8, 48, 49, 50, 51, 52, 53, 54, 55, 56, 57, 58, 59] (by decide +kernel) (by decide +kernel)
set_option maxRecDepth 20000 in
theorem gX0_shareWithin_X0_release : GoodIn wsX0_shareWithin (wsV RX0 34 RX0 yX0_release wsX0_release) := goodIn_app (goodIn_of _ (by decide +kernel)) ggX0_shareWithin_X0_release
theorem dX0_shareWithin_0 : decode cX0_shareWithin 0 = .ok (.aload_n 0, 1) := by decide +kernel
theorem dX0_shareWithin_1 : decode cX0_shareWithin 1 = .ok (.iload_n 2, 1) := by decide +kernel
theorem dX0_shareWithin_2 : decode cX0_shareWithin 2 = .ok (.invokevirtual 27, 3) := by decide +kernel
theorem dX0_shareWithin_5 : decode cX0_shareWithin 5 = .ok (.ifCond .ne 6, 3) := by decide +kernel
theorem dX0_shareWithin_8 : decode cX0_shareWithin 8 = .ok (.bipush (-11), 2) := by decide +kernel
theorem dX0_shareWithin_10 : decode cX0_shareWithin 10 = .ok (.ireturn, 1) := by decide +kernel
theorem dX0_shareWithin_11 : decode cX0_shareWithin 11 = .ok (.aload_n 0, 1) := by decide +kernel
theorem dX0_shareWithin_12 : decode cX0_shareWithin 12 = .ok (.aload_n 0, 1) := by decide +kernel
theorem dX0_shareWithin_13 : decode cX0_shareWithin 13 = .ok (.iload_n 1, 1) := by decide +kernel
theorem dX0_shareWithin_14 : decode cX0_shareWithin 14 = .ok (.iload_n 2, 1) := by decide +kernel
theorem dX0_shareWithin_15 : decode cX0_shareWithin 15 = .ok (.iload_n 3, 1) := by decide +kernel
theorem dX0_shareWithin_16 : decode cX0_shareWithin 16 = .ok (.invokevirtual 103, 3) := by decide +kernel
theorem dX0_shareWithin_19 : decode cX0_shareWithin 19 = .ok (.invokevirtual 34, 3) := by decide +kernel
theorem dX0_shareWithin_22 : decode cX0_shareWithin 22 = .ok (.ireturn, 1) := by decide +kernel
set_option maxRecDepth 20000 in
theorem ggX0_divideEach_X0_hasPlace : GoodIn wsX0_divideEach wsX0_hasPlace := goodIn_r _ [6, 1, 7, 8, 5, 9, 19, 20, 21, 22, 23, 24, 25, 26, 27] (by decide +kernel) (by decide +kernel)
set_option maxRecDepth 20000 in
theorem gX0_divideEach_X0_hasPlace : GoodIn wsX0_divideEach (wsV RX0 69 RX0 yX0_hasPlace wsX0_hasPlace) := goodIn_app (goodIn_of _ (by decide +kernel)) ggX0_divideEach_X0_hasPlace
set_option maxRecDepth 20000 in
theorem ggX0_divideEach_X0_at : GoodIn wsX0_divideEach wsX0_at := goodIn_r _ [13, 14, 19, 20, 21, 22, 23, 24, 25, 26, 27] (by decide +kernel) (by decide +kernel)
set_option maxRecDepth 20000 in
theorem gX0_divideEach_X0_at : GoodIn wsX0_divideEach (wsV RX0 73 RX0 yX0_at wsX0_at) := goodIn_app (goodIn_of _ (by decide +kernel)) ggX0_divideEach_X0_at
set_option maxRecDepth 20000 in
theorem ggX0_divideEach_X0_put : GoodIn wsX0_divideEach wsX0_put := goodIn_r _ [18, 14, 19, 20, 21, 22, 23, 24, 25, 26, 27] (by decide +kernel) (by decide +kernel)
set_option maxRecDepth 20000 in
theorem gX0_divideEach_X0_put : GoodIn wsX0_divideEach (wsV RX0 23 RX0 yX0_put wsX0_put) := goodIn_app (goodIn_of _ (by decide +kernel)) ggX0_divideEach_X0_put
theorem dX0_divideEach_0 : decode cX0_divideEach 0 = .ok (.iconst 0, 1) := by decide +kernel
theorem dX0_divideEach_1 : decode cX0_divideEach 1 = .ok (.istore 4, 2) := by decide +kernel
theorem dX0_divideEach_3 : decode cX0_divideEach 3 = .ok (.iload 4, 2) := by decide +kernel
theorem dX0_divideEach_5 : decode cX0_divideEach 5 = .ok (.aload_n 0, 1) := by decide +kernel
theorem dX0_divideEach_6 : decode cX0_divideEach 6 = .ok (.getfield 9, 3) := by decide +kernel
theorem dX0_divideEach_9 : decode cX0_divideEach 9 = .ok (.iload_n 1, 1) := by decide +kernel
theorem dX0_divideEach_10 : decode cX0_divideEach 10 = .ok (.iaload, 1) := by decide +kernel
theorem dX0_divideEach_11 : decode cX0_divideEach 11 = .ok (.if_icmp .ge 54, 3) := by decide +kernel
theorem dX0_divideEach_14 : decode cX0_divideEach 14 = .ok (.aload_n 0, 1) := by decide +kernel
theorem dX0_divideEach_15 : decode cX0_divideEach 15 = .ok (.iload_n 2, 1) := by decide +kernel
theorem dX0_divideEach_16 : decode cX0_divideEach 16 = .ok (.iload_n 3, 1) := by decide +kernel
theorem dX0_divideEach_17 : decode cX0_divideEach 17 = .ok (.invokevirtual 69, 3) := by decide +kernel
theorem dX0_divideEach_20 : decode cX0_divideEach 20 = .ok (.ifCond .ne 6, 3) := by decide +kernel
theorem dX0_divideEach_23 : decode cX0_divideEach 23 = .ok (.bipush (-12), 2) := by decide +kernel
theorem dX0_divideEach_25 : decode cX0_divideEach 25 = .ok (.ireturn, 1) := by decide +kernel
theorem dX0_divideEach_26 : decode cX0_divideEach 26 = .ok (.aload_n 0, 1) := by decide +kernel
theorem dX0_divideEach_27 : decode cX0_divideEach 27 = .ok (.iload_n 2, 1) := by decide +kernel
theorem dX0_divideEach_28 : decode cX0_divideEach 28 = .ok (.iload_n 3, 1) := by decide +kernel
theorem dX0_divideEach_29 : decode cX0_divideEach 29 = .ok (.invokevirtual 73, 3) := by decide +kernel
theorem dX0_divideEach_32 : decode cX0_divideEach 32 = .ok (.istore 5, 2) := by decide +kernel
theorem dX0_divideEach_34 : decode cX0_divideEach 34 = .ok (.iload 5, 2) := by decide +kernel
theorem dX0_divideEach_36 : decode cX0_divideEach 36 = .ok (.ifCond .ne 6, 3) := by decide +kernel
theorem dX0_divideEach_39 : decode cX0_divideEach 39 = .ok (.bipush (-13), 2) := by decide +kernel
theorem dX0_divideEach_41 : decode cX0_divideEach 41 = .ok (.ireturn, 1) := by decide +kernel
theorem dX0_divideEach_42 : decode cX0_divideEach 42 = .ok (.aload_n 0, 1) := by decide +kernel
theorem dX0_divideEach_43 : decode cX0_divideEach 43 = .ok (.iload_n 1, 1) := by decide +kernel
theorem dX0_divideEach_44 : decode cX0_divideEach 44 = .ok (.iload 4, 2) := by decide +kernel
theorem dX0_divideEach_46 : decode cX0_divideEach 46 = .ok (.aload_n 0, 1) := by decide +kernel
theorem dX0_divideEach_47 : decode cX0_divideEach 47 = .ok (.iload_n 1, 1) := by decide +kernel
theorem dX0_divideEach_48 : decode cX0_divideEach 48 = .ok (.iload 4, 2) := by decide +kernel
theorem dX0_divideEach_50 : decode cX0_divideEach 50 = .ok (.invokevirtual 73, 3) := by decide +kernel
theorem dX0_divideEach_53 : decode cX0_divideEach 53 = .ok (.iload 5, 2) := by decide +kernel
theorem dX0_divideEach_55 : decode cX0_divideEach 55 = .ok (.idiv, 1) := by decide +kernel
theorem dX0_divideEach_56 : decode cX0_divideEach 56 = .ok (.invokevirtual 23, 3) := by decide +kernel
theorem dX0_divideEach_59 : decode cX0_divideEach 59 = .ok (.iinc 4 1, 3) := by decide +kernel
theorem dX0_divideEach_62 : decode cX0_divideEach 62 = .ok (.goto (-59), 3) := by decide +kernel
theorem dX0_divideEach_65 : decode cX0_divideEach 65 = .ok (.aload_n 0, 1) := by decide +kernel
theorem dX0_divideEach_66 : decode cX0_divideEach 66 = .ok (.getfield 9, 3) := by decide +kernel
theorem dX0_divideEach_69 : decode cX0_divideEach 69 = .ok (.iload_n 1, 1) := by decide +kernel
theorem dX0_divideEach_70 : decode cX0_divideEach 70 = .ok (.iaload, 1) := by decide +kernel
theorem dX0_divideEach_71 : decode cX0_divideEach 71 = .ok (.ireturn, 1) := by decide +kernel
set_option maxRecDepth 20000 in
theorem ggX0_spreadWithin_X0_spreadAt : GoodIn wsX0_spreadWithin wsX0_spreadAt := goodIn_r _ [6, 7, 8, 9, 5, 10, 11, 12, 13, 14, 15, 16, 17, 18, 19, 20, 21, 22, 1, 23, 24, 25, 26, 27, 28, 29, 30, 31, 32, 33, 34, 35, 36, 37, 38, 39, 40, 41, 42, 43, 44, 45, 46, 47, 48, 49, 50, 51, 52, 53, 54, 55, 56, 57, 58, 59, 60, 61, 62, 63] (by decide +kernel) (by decide +kernel)
set_option maxRecDepth 20000 in
theorem gX0_spreadWithin_X0_spreadAt : GoodIn wsX0_spreadWithin (wsV RX0 106 RX0 yX0_spreadAt wsX0_spreadAt) := goodIn_app (goodIn_of _ (by decide +kernel)) ggX0_spreadWithin_X0_spreadAt
set_option maxRecDepth 20000 in
theorem ggX0_spreadWithin_X0_isFailure : GoodIn wsX0_spreadWithin wsX0_isFailure := goodIn_r _ [54] (by decide +kernel) (by decide +kernel)
set_option maxRecDepth 20000 in
theorem gX0_spreadWithin_X0_isFailure : GoodIn wsX0_spreadWithin (va_wsS RX0 109 yX0_isFailure wsX0_isFailure) := goodIn_app (goodIn_of _ (by decide +kernel)) ggX0_spreadWithin_X0_isFailure
theorem dX0_spreadWithin_0 : decode cX0_spreadWithin 0 = .ok (.iconst 0, 1) := by decide +kernel
theorem dX0_spreadWithin_1 : decode cX0_spreadWithin 1 = .ok (.istore_n 3, 1) := by decide +kernel
theorem dX0_spreadWithin_2 : decode cX0_spreadWithin 2 = .ok (.iload_n 3, 1) := by decide +kernel
theorem dX0_spreadWithin_3 : decode cX0_spreadWithin 3 = .ok (.aload_n 0, 1) := by decide +kernel
theorem dX0_spreadWithin_4 : decode cX0_spreadWithin 4 = .ok (.getfield 9, 3) := by decide +kernel
theorem dX0_spreadWithin_7 : decode cX0_spreadWithin 7 = .ok (.iload_n 1, 1) := by decide +kernel
theorem dX0_spreadWithin_8 : decode cX0_spreadWithin 8 = .ok (.iaload, 1) := by decide +kernel
theorem dX0_spreadWithin_9 : decode cX0_spreadWithin 9 = .ok (.if_icmp .ge 29, 3) := by decide +kernel
theorem dX0_spreadWithin_12 : decode cX0_spreadWithin 12 = .ok (.aload_n 0, 1) := by decide +kernel
theorem dX0_spreadWithin_13 : decode cX0_spreadWithin 13 = .ok (.iload_n 1, 1) := by decide +kernel
theorem dX0_spreadWithin_14 : decode cX0_spreadWithin 14 = .ok (.iload_n 2, 1) := by decide +kernel
theorem dX0_spreadWithin_15 : decode cX0_spreadWithin 15 = .ok (.iload_n 3, 1) := by decide +kernel
theorem dX0_spreadWithin_16 : decode cX0_spreadWithin 16 = .ok (.invokevirtual 106, 3) := by decide +kernel
theorem dX0_spreadWithin_19 : decode cX0_spreadWithin 19 = .ok (.istore 4, 2) := by decide +kernel
theorem dX0_spreadWithin_21 : decode cX0_spreadWithin 21 = .ok (.iload 4, 2) := by decide +kernel
theorem dX0_spreadWithin_23 : decode cX0_spreadWithin 23 = .ok (.invokestatic 109, 3) := by decide +kernel
theorem dX0_spreadWithin_26 : decode cX0_spreadWithin 26 = .ok (.ifCond .eq 6, 3) := by decide +kernel
theorem dX0_spreadWithin_29 : decode cX0_spreadWithin 29 = .ok (.iload 4, 2) := by decide +kernel
theorem dX0_spreadWithin_31 : decode cX0_spreadWithin 31 = .ok (.ireturn, 1) := by decide +kernel
theorem dX0_spreadWithin_32 : decode cX0_spreadWithin 32 = .ok (.iinc 3 1, 3) := by decide +kernel
theorem dX0_spreadWithin_35 : decode cX0_spreadWithin 35 = .ok (.goto (-33), 3) := by decide +kernel
theorem dX0_spreadWithin_38 : decode cX0_spreadWithin 38 = .ok (.aload_n 0, 1) := by decide +kernel
theorem dX0_spreadWithin_39 : decode cX0_spreadWithin 39 = .ok (.getfield 9, 3) := by decide +kernel
theorem dX0_spreadWithin_42 : decode cX0_spreadWithin 42 = .ok (.iload_n 1, 1) := by decide +kernel
theorem dX0_spreadWithin_43 : decode cX0_spreadWithin 43 = .ok (.iaload, 1) := by decide +kernel
theorem dX0_spreadWithin_44 : decode cX0_spreadWithin 44 = .ok (.ireturn, 1) := by decide +kernel
set_option maxRecDepth 20000 in
theorem ggX0_spreadAt_X0_hold : GoodIn wsX0_spreadAt wsX0_hold := goodIn_r _ [5, 6, 7, 8, 9, 10, 11, 12, 13, 14, 15, 16, 4, 17, 18, 19, 20, 21, 51, 52, 53, 54, 55, 56, 57, 58, 59] (by decide +kernel) (by decide +kernel)
set_option maxRecDepth 20000 in
theorem gX0_spreadAt_X0_hold : GoodIn wsX0_spreadAt (wsV RX0 27 RX0 yX0_hold wsX0_hold) := goodIn_app (goodIn_of _ (by decide +kernel)) ggX0_spreadAt_X0_hold
set_option maxRecDepth 20000 in
theorem ggX0_spreadAt_X0_addQuotient : GoodIn wsX0_spreadAt wsX0_addQuotient := goodIn_r _ [25, 26, 27, 28, 4, 29, 18, 19, 20, 21, 30, 31, 32, 33, 34, 35, 36, 37, 38, 51, 52, 53, 54, 55, 56, 57, 58, 59] (by decide +kernel) (by decide +kernel)
set_option maxRecDepth 20000 in
theorem gX0_spreadAt_X0_addQuotient : GoodIn wsX0_spreadAt (wsV RX0 112 RX0 yX0_addQuotient wsX0_addQuotient) := goodIn_app (goodIn_of _ (by decide +kernel)) ggX0_spreadAt_X0_addQuotient
set_option maxRecDepth 20000 in
theorem ggX0_spreadAt_X0_release : GoodIn wsX0_spreadAt wsX0_release := goodIn_r _ [42, 43, 44, 45, 46, 4, 47, 8, 48, 49, 50, 51, 52, 53, 54, 55, 56, 57, 58, 59] (by decide +kernel) (by decide +kernel)
set_option maxRecDepth 20000 in
theorem gX0_spreadAt_X0_release : GoodIn wsX0_spreadAt (wsV RX0 34 RX0 yX0_release wsX0_release) := goodIn_app (goodIn_of _ (by decide +kernel)) ggX0_spreadAt_X0_release
theorem dX0_spreadAt_0 : decode cX0_spreadAt 0 = .ok (.aload_n 0, 1) := by decide +kernel
theorem dX0_spreadAt_1 : decode cX0_spreadAt 1 = .ok (.iload_n 2, 1) := by decide +kernel
theorem dX0_spreadAt_2 : decode cX0_spreadAt 2 = .ok (.invokevirtual 27, 3) := by decide +kernel
theorem dX0_spreadAt_5 : decode cX0_spreadAt 5 = .ok (.ifCond .ne 6, 3) := by decide +kernel
theorem dX0_spreadAt_8 : decode cX0_spreadAt 8 = .ok (.bipush (-11), 2) := by decide +kernel
theorem dX0_spreadAt_10 : decode cX0_spreadAt 10 = .ok (.ireturn, 1) := by decide +kernel
theorem dX0_spreadAt_11 : decode cX0_spreadAt 11 = .ok (.aload_n 0, 1) := by decide +kernel
theorem dX0_spreadAt_12 : decode cX0_spreadAt 12 = .ok (.aload_n 0, 1) := by decide +kernel
theorem dX0_spreadAt_13 : decode cX0_spreadAt 13 = .ok (.iload_n 1, 1) := by decide +kernel
theorem dX0_spreadAt_14 : decode cX0_spreadAt 14 = .ok (.iload_n 2, 1) := by decide +kernel
theorem dX0_spreadAt_15 : decode cX0_spreadAt 15 = .ok (.iload_n 3, 1) := by decide +kernel
theorem dX0_spreadAt_16 : decode cX0_spreadAt 16 = .ok (.invokevirtual 112, 3) := by decide +kernel
theorem dX0_spreadAt_19 : decode cX0_spreadAt 19 = .ok (.invokevirtual 34, 3) := by decide +kernel
theorem dX0_spreadAt_22 : decode cX0_spreadAt 22 = .ok (.ireturn, 1) := by decide +kernel
set_option maxRecDepth 20000 in
theorem ggX0_addQuotient_X0_hasPlace : GoodIn wsX0_addQuotient wsX0_hasPlace := goodIn_r _ [5, 6, 7, 8, 4, 9, 19, 20, 21, 22, 23, 24, 25, 26, 27] (by decide +kernel) (by decide +kernel)
set_option maxRecDepth 20000 in
theorem gX0_addQuotient_X0_hasPlace : GoodIn wsX0_addQuotient (wsV RX0 69 RX0 yX0_hasPlace wsX0_hasPlace) := goodIn_app (goodIn_of _ (by decide +kernel)) ggX0_addQuotient_X0_hasPlace
set_option maxRecDepth 20000 in
theorem ggX0_addQuotient_X0_at : GoodIn wsX0_addQuotient wsX0_at := goodIn_r _ [13, 14, 19, 20, 21, 22, 23, 24, 25, 26, 27] (by decide +kernel) (by decide +kernel)
set_option maxRecDepth 20000 in
theorem gX0_addQuotient_X0_at : GoodIn wsX0_addQuotient (wsV RX0 73 RX0 yX0_at wsX0_at) := goodIn_app (goodIn_of _ (by decide +kernel)) ggX0_addQuotient_X0_at
set_option maxRecDepth 20000 in
theorem ggX0_addQuotient_X0_put : GoodIn wsX0_addQuotient wsX0_put := goodIn_r _ [18, 14, 19, 20, 21, 22, 23, 24, 25, 26, 27] (by decide +kernel) (by decide +kernel)
set_option maxRecDepth 20000 in
theorem gX0_addQuotient_X0_put : GoodIn wsX0_addQuotient (wsV RX0 23 RX0 yX0_put wsX0_put) := goodIn_app (goodIn_of _ (by decide +kernel)) ggX0_addQuotient_X0_put
theorem dX0_addQuotient_0 : decode cX0_addQuotient 0 = .ok (.aload_n 0, 1) := by decide +kernel
theorem dX0_addQuotient_1 : decode cX0_addQuotient 1 = .ok (.iload_n 2, 1) := by decide +kernel
theorem dX0_addQuotient_2 : decode cX0_addQuotient 2 = .ok (.iload_n 3, 1) := by decide +kernel
theorem dX0_addQuotient_3 : decode cX0_addQuotient 3 = .ok (.invokevirtual 69, 3) := by decide +kernel
theorem dX0_addQuotient_6 : decode cX0_addQuotient 6 = .ok (.ifCond .ne 6, 3) := by decide +kernel
theorem dX0_addQuotient_9 : decode cX0_addQuotient 9 = .ok (.bipush (-12), 2) := by decide +kernel
theorem dX0_addQuotient_11 : decode cX0_addQuotient 11 = .ok (.ireturn, 1) := by decide +kernel
theorem dX0_addQuotient_12 : decode cX0_addQuotient 12 = .ok (.aload_n 0, 1) := by decide +kernel
theorem dX0_addQuotient_13 : decode cX0_addQuotient 13 = .ok (.iload_n 2, 1) := by decide +kernel
theorem dX0_addQuotient_14 : decode cX0_addQuotient 14 = .ok (.iload_n 3, 1) := by decide +kernel
theorem dX0_addQuotient_15 : decode cX0_addQuotient 15 = .ok (.invokevirtual 73, 3) := by decide +kernel
theorem dX0_addQuotient_18 : decode cX0_addQuotient 18 = .ok (.istore 4, 2) := by decide +kernel
theorem dX0_addQuotient_20 : decode cX0_addQuotient 20 = .ok (.iload 4, 2) := by decide +kernel
theorem dX0_addQuotient_22 : decode cX0_addQuotient 22 = .ok (.ifCond .ne 6, 3) := by decide +kernel
theorem dX0_addQuotient_25 : decode cX0_addQuotient 25 = .ok (.bipush (-13), 2) := by decide +kernel
theorem dX0_addQuotient_27 : decode cX0_addQuotient 27 = .ok (.ireturn, 1) := by decide +kernel
theorem dX0_addQuotient_28 : decode cX0_addQuotient 28 = .ok (.aload_n 0, 1) := by decide +kernel
theorem dX0_addQuotient_29 : decode cX0_addQuotient 29 = .ok (.iload_n 2, 1) := by decide +kernel
theorem dX0_addQuotient_30 : decode cX0_addQuotient 30 = .ok (.iload_n 3, 1) := by decide +kernel
theorem dX0_addQuotient_31 : decode cX0_addQuotient 31 = .ok (.iload 4, 2) := by decide +kernel
theorem dX0_addQuotient_33 : decode cX0_addQuotient 33 = .ok (.aload_n 0, 1) := by decide +kernel
theorem dX0_addQuotient_34 : decode cX0_addQuotient 34 = .ok (.iload_n 1, 1) := by decide +kernel
theorem dX0_addQuotient_35 : decode cX0_addQuotient 35 = .ok (.iload_n 3, 1) := by decide +kernel
theorem dX0_addQuotient_36 : decode cX0_addQuotient 36 = .ok (.invokevirtual 73, 3) := by decide +kernel
theorem dX0_addQuotient_39 : decode cX0_addQuotient 39 = .ok (.iload 4, 2) := by decide +kernel
theorem dX0_addQuotient_41 : decode cX0_addQuotient 41 = .ok (.idiv, 1) := by decide +kernel
theorem dX0_addQuotient_42 : decode cX0_addQuotient 42 = .ok (.iadd, 1) := by decide +kernel
theorem dX0_addQuotient_43 : decode cX0_addQuotient 43 = .ok (.invokevirtual 23, 3) := by decide +kernel
theorem dX0_addQuotient_46 : decode cX0_addQuotient 46 = .ok (.iconst 1, 1) := by decide +kernel
theorem dX0_addQuotient_47 : decode cX0_addQuotient 47 = .ok (.ireturn, 1) := by decide +kernel
set_option maxRecDepth 20000 in
theorem ggX0_climbFrom_X0_hold : GoodIn wsX0_climbFrom wsX0_hold := goodIn_r _ [5, 6, 7, 8, 9, 10, 11, 12, 13, 14, 15, 16, 4, 17, 18, 19, 20, 21, 55, 56, 57, 58, 59, 60, 61, 62, 63] (by decide +kernel) (by decide +kernel)
set_option maxRecDepth 20000 in
theorem gX0_climbFrom_X0_hold : GoodIn wsX0_climbFrom (wsV RX0 27 RX0 yX0_hold wsX0_hold) := goodIn_app (goodIn_of _ (by decide +kernel)) ggX0_climbFrom_X0_hold
set_option maxRecDepth 20000 in
theorem ggX0_climbFrom_X0_climbWithin : GoodIn wsX0_climbFrom wsX0_climbWithin := goodIn_r _ [37, 38, 39, 40, 41, 4, 42, 18, 19, 20, 21, 43, 44, 45, 46, 47, 48, 49, 50, 51, 52, 53, 54, 0, 1, 2, 3, 5, 6, 7, 8, 9, 10, 11, 12, 13, 14, 15, 16, 17, 22, 23, 24, 25, 26, 27, 28, 29, 30, 31, 32, 33, 34, 35, 36, 55, 56, 57, 58, 59, 60, 61, 62, 63] (by decide +kernel) (by decide +kernel)
set_option maxRecDepth 20000 in
theorem gX0_climbFrom_X0_climbWithin : GoodIn wsX0_climbFrom (wsV RX0 115 RX0 yX0_climbWithin wsX0_climbWithin) := goodIn_app (goodIn_of _ (by decide +kernel)) ggX0_climbFrom_X0_climbWithin
set_option maxRecDepth 20000 in
theorem ggX0_climbFrom_X0_release : GoodIn wsX0_climbFrom wsX0_release := goodIn_r _ [28, 29, 30, 31, 32, 4, 33, 8, 34, 35, 36, 55, 56, 57, 58, 59, 60, 61, 62, 63] (by decide +kernel) (by decide +kernel)
set_option maxRecDepth 20000 in
theorem gX0_climbFrom_X0_release : GoodIn wsX0_climbFrom (wsV RX0 34 RX0 yX0_release wsX0_release) := goodIn_app (goodIn_of _ (by decide +kernel)) ggX0_climbFrom_X0_release
theorem dX0_climbFrom_0 : decode cX0_climbFrom 0 = .ok (.aload_n 0, 1) := by decide +kernel
theorem dX0_climbFrom_1 : decode cX0_climbFrom 1 = .ok (.iload_n 1, 1) := by decide +kernel
theorem dX0_climbFrom_2 : decode cX0_climbFrom 2 = .ok (.invokevirtual 27, 3) := by decide +kernel
theorem dX0_climbFrom_5 : decode cX0_climbFrom 5 = .ok (.ifCond .ne 6, 3) := by decide +kernel
theorem dX0_climbFrom_8 : decode cX0_climbFrom 8 = .ok (.bipush (-11), 2) := by decide +kernel
theorem dX0_climbFrom_10 : decode cX0_climbFrom 10 = .ok (.ireturn, 1) := by decide +kernel
theorem dX0_climbFrom_11 : decode cX0_climbFrom 11 = .ok (.aload_n 0, 1) := by decide +kernel
theorem dX0_climbFrom_12 : decode cX0_climbFrom 12 = .ok (.aload_n 0, 1) := by decide +kernel
theorem dX0_climbFrom_13 : decode cX0_climbFrom 13 = .ok (.iload_n 1, 1) := by decide +kernel
theorem dX0_climbFrom_14 : decode cX0_climbFrom 14 = .ok (.iload_n 2, 1) := by decide +kernel
theorem dX0_climbFrom_15 : decode cX0_climbFrom 15 = .ok (.iload_n 3, 1) := by decide +kernel
theorem dX0_climbFrom_16 : decode cX0_climbFrom 16 = .ok (.invokevirtual 115, 3) := by decide +kernel
theorem dX0_climbFrom_19 : decode cX0_climbFrom 19 = .ok (.invokevirtual 34, 3) := by decide +kernel
theorem dX0_climbFrom_22 : decode cX0_climbFrom 22 = .ok (.ireturn, 1) := by decide +kernel
set_option maxRecDepth 20000 in
theorem ggX0_climbWithin_X0_hasPlace : GoodIn wsX0_climbWithin wsX0_hasPlace := goodIn_r _ [6, 7, 8, 9, 5, 10, 55, 56, 57, 58, 59, 60, 61, 62, 63] (by decide +kernel) (by decide +kernel)
set_option maxRecDepth 20000 in
theorem gX0_climbWithin_X0_hasPlace : GoodIn wsX0_climbWithin (wsV RX0 69 RX0 yX0_hasPlace wsX0_hasPlace) := goodIn_app (goodIn_of _ (by decide +kernel)) ggX0_climbWithin_X0_hasPlace
set_option maxRecDepth 20000 in
theorem ggX0_climbWithin_X0_at : GoodIn wsX0_climbWithin wsX0_at := goodIn_r _ [14, 15, 55, 56, 57, 58, 59, 60, 61, 62, 63] (by decide +kernel) (by decide +kernel)
set_option maxRecDepth 20000 in
theorem gX0_climbWithin_X0_at : GoodIn wsX0_climbWithin (wsV RX0 73 RX0 yX0_at wsX0_at) := goodIn_app (goodIn_of _ (by decide +kernel)) ggX0_climbWithin_X0_at
set_option maxRecDepth 20000 in
theorem ggX0_climbWithin_X0_put : GoodIn wsX0_climbWithin wsX0_put := goodIn_r _ [19, 15, 55, 56, 57, 58, 59, 60, 61, 62, 63] (by decide +kernel) (by decide +kernel)
set_option maxRecDepth 20000 in
theorem gX0_climbWithin_X0_put : GoodIn wsX0_climbWithin (wsV RX0 23 RX0 yX0_put wsX0_put) := goodIn_app (goodIn_of _ (by decide +kernel)) ggX0_climbWithin_X0_put
set_option maxRecDepth 20000 in
theorem ggX0_climbWithin_X0_climbFrom : GoodIn wsX0_climbWithin wsX0_climbFrom := goodIn_r _ [23, 24, 25, 26, 5, 27, 28, 29, 30, 31, 32, 33, 34, 35, 36, 37, 38, 39, 7, 8, 9, 10, 40, 41, 42, 43, 44, 45, 46, 47, 48, 49, 50, 51, 52, 53, 54, 0, 1, 2, 3, 4, 6, 11, 12, 13, 14, 15, 16, 17, 18, 19, 20, 21, 22, 55, 56, 57, 58, 59, 60, 61, 62, 63] (by decide +kernel) (by decide +kernel)
set_option maxRecDepth 20000 in
theorem gX0_climbWithin_X0_climbFrom : GoodIn wsX0_climbWithin (wsV RX0 45 RX0 yX0_climbFrom wsX0_climbFrom) := goodIn_app (goodIn_of _ (by decide +kernel)) ggX0_climbWithin_X0_climbFrom
theorem dX0_climbWithin_0 : decode cX0_climbWithin 0 = .ok (.aload_n 0, 1) := by decide +kernel
theorem dX0_climbWithin_1 : decode cX0_climbWithin 1 = .ok (.iload_n 1, 1) := by decide +kernel
theorem dX0_climbWithin_2 : decode cX0_climbWithin 2 = .ok (.iload_n 2, 1) := by decide +kernel
theorem dX0_climbWithin_3 : decode cX0_climbWithin 3 = .ok (.invokevirtual 69, 3) := by decide +kernel
theorem dX0_climbWithin_6 : decode cX0_climbWithin 6 = .ok (.ifCond .ne 6, 3) := by decide +kernel
theorem dX0_climbWithin_9 : decode cX0_climbWithin 9 = .ok (.bipush (-12), 2) := by decide +kernel
theorem dX0_climbWithin_11 : decode cX0_climbWithin 11 = .ok (.ireturn, 1) := by decide +kernel
theorem dX0_climbWithin_12 : decode cX0_climbWithin 12 = .ok (.aload_n 0, 1) := by decide +kernel
theorem dX0_climbWithin_13 : decode cX0_climbWithin 13 = .ok (.iload_n 1, 1) := by decide +kernel
theorem dX0_climbWithin_14 : decode cX0_climbWithin 14 = .ok (.iload_n 2, 1) := by decide +kernel
theorem dX0_climbWithin_15 : decode cX0_climbWithin 15 = .ok (.aload_n 0, 1) := by decide +kernel
theorem dX0_climbWithin_16 : decode cX0_climbWithin 16 = .ok (.iload_n 1, 1) := by decide +kernel
theorem dX0_climbWithin_17 : decode cX0_climbWithin 17 = .ok (.iload_n 2, 1) := by decide +kernel
theorem dX0_climbWithin_18 : decode cX0_climbWithin 18 = .ok (.invokevirtual 73, 3) := by decide +kernel
theorem dX0_climbWithin_21 : decode cX0_climbWithin 21 = .ok (.iload_n 2, 1) := by decide +kernel
theorem dX0_climbWithin_22 : decode cX0_climbWithin 22 = .ok (.iadd, 1) := by decide +kernel
theorem dX0_climbWithin_23 : decode cX0_climbWithin 23 = .ok (.invokevirtual 23, 3) := by decide +kernel
theorem dX0_climbWithin_26 : decode cX0_climbWithin 26 = .ok (.iload_n 2, 1) := by decide +kernel
theorem dX0_climbWithin_27 : decode cX0_climbWithin 27 = .ok (.iconst 1, 1) := by decide +kernel
theorem dX0_climbWithin_28 : decode cX0_climbWithin 28 = .ok (.iadd, 1) := by decide +kernel
theorem dX0_climbWithin_29 : decode cX0_climbWithin 29 = .ok (.iload_n 3, 1) := by decide +kernel
theorem dX0_climbWithin_30 : decode cX0_climbWithin 30 = .ok (.if_icmp .ge 21, 3) := by decide +kernel
theorem dX0_climbWithin_33 : decode cX0_climbWithin 33 = .ok (.iload_n 2, 1) := by decide +kernel
theorem dX0_climbWithin_34 : decode cX0_climbWithin 34 = .ok (.iconst 1, 1) := by decide +kernel
theorem dX0_climbWithin_35 : decode cX0_climbWithin 35 = .ok (.iadd, 1) := by decide +kernel
theorem dX0_climbWithin_36 : decode cX0_climbWithin 36 = .ok (.bipush 12, 2) := by decide +kernel
theorem dX0_climbWithin_38 : decode cX0_climbWithin 38 = .ok (.if_icmp .ge 13, 3) := by decide +kernel
theorem dX0_climbWithin_41 : decode cX0_climbWithin 41 = .ok (.aload_n 0, 1) := by decide +kernel
theorem dX0_climbWithin_42 : decode cX0_climbWithin 42 = .ok (.iload_n 1, 1) := by decide +kernel
theorem dX0_climbWithin_43 : decode cX0_climbWithin 43 = .ok (.iload_n 2, 1) := by decide +kernel
theorem dX0_climbWithin_44 : decode cX0_climbWithin 44 = .ok (.iconst 1, 1) := by decide +kernel
theorem dX0_climbWithin_45 : decode cX0_climbWithin 45 = .ok (.iadd, 1) := by decide +kernel
theorem dX0_climbWithin_46 : decode cX0_climbWithin 46 = .ok (.iload_n 3, 1) := by decide +kernel
theorem dX0_climbWithin_47 : decode cX0_climbWithin 47 = .ok (.invokevirtual 45, 3) := by decide +kernel
theorem dX0_climbWithin_50 : decode cX0_climbWithin 50 = .ok (.ireturn, 1) := by decide +kernel
theorem dX0_climbWithin_51 : decode cX0_climbWithin 51 = .ok (.aload_n 0, 1) := by decide +kernel
theorem dX0_climbWithin_52 : decode cX0_climbWithin 52 = .ok (.dup, 1) := by decide +kernel
theorem dX0_climbWithin_53 : decode cX0_climbWithin 53 = .ok (.getfield 97, 3) := by decide +kernel
theorem dX0_climbWithin_56 : decode cX0_climbWithin 56 = .ok (.aload_n 0, 1) := by decide +kernel
theorem dX0_climbWithin_57 : decode cX0_climbWithin 57 = .ok (.iload_n 1, 1) := by decide +kernel
theorem dX0_climbWithin_58 : decode cX0_climbWithin 58 = .ok (.iconst 0, 1) := by decide +kernel
theorem dX0_climbWithin_59 : decode cX0_climbWithin 59 = .ok (.invokevirtual 73, 3) := by decide +kernel
theorem dX0_climbWithin_62 : decode cX0_climbWithin 62 = .ok (.i2l, 1) := by decide +kernel
theorem dX0_climbWithin_63 : decode cX0_climbWithin 63 = .ok (.ladd, 1) := by decide +kernel
theorem dX0_climbWithin_64 : decode cX0_climbWithin 64 = .ok (.putfield 97, 3) := by decide +kernel
theorem dX0_climbWithin_67 : decode cX0_climbWithin 67 = .ok (.iload_n 3, 1) := by decide +kernel
theorem dX0_climbWithin_68 : decode cX0_climbWithin 68 = .ok (.ireturn, 1) := by decide +kernel
set_option maxRecDepth 20000 in
theorem ggX0_placeOf_X0_at : GoodIn wsX0_placeOf wsX0_at := goodIn_r _ [6, 7, 8, 9, 10, 11, 12, 13, 14, 15, 16] (by decide +kernel) (by decide +kernel)
set_option maxRecDepth 20000 in
theorem gX0_placeOf_X0_at : GoodIn wsX0_placeOf (wsV RX0 73 RX0 yX0_at wsX0_at) := goodIn_app (goodIn_of _ (by decide +kernel)) ggX0_placeOf_X0_at
theorem dX0_placeOf_0 : decode cX0_placeOf 0 = .ok (.iconst 0, 1) := by decide +kernel
theorem dX0_placeOf_1 : decode cX0_placeOf 1 = .ok (.istore_n 3, 1) := by decide +kernel
theorem dX0_placeOf_2 : decode cX0_placeOf 2 = .ok (.iload_n 3, 1) := by decide +kernel
theorem dX0_placeOf_3 : decode cX0_placeOf 3 = .ok (.aload_n 0, 1) := by decide +kernel
theorem dX0_placeOf_4 : decode cX0_placeOf 4 = .ok (.getfield 9, 3) := by decide +kernel
theorem dX0_placeOf_7 : decode cX0_placeOf 7 = .ok (.iload_n 1, 1) := by decide +kernel
theorem dX0_placeOf_8 : decode cX0_placeOf 8 = .ok (.iaload, 1) := by decide +kernel
theorem dX0_placeOf_9 : decode cX0_placeOf 9 = .ok (.if_icmp .ge 21, 3) := by decide +kernel
theorem dX0_placeOf_12 : decode cX0_placeOf 12 = .ok (.aload_n 0, 1) := by decide +kernel
theorem dX0_placeOf_13 : decode cX0_placeOf 13 = .ok (.iload_n 1, 1) := by decide +kernel
theorem dX0_placeOf_14 : decode cX0_placeOf 14 = .ok (.iload_n 3, 1) := by decide +kernel
theorem dX0_placeOf_15 : decode cX0_placeOf 15 = .ok (.invokevirtual 73, 3) := by decide +kernel
theorem dX0_placeOf_18 : decode cX0_placeOf 18 = .ok (.iload_n 2, 1) := by decide +kernel
theorem dX0_placeOf_19 : decode cX0_placeOf 19 = .ok (.if_icmp .ne 5, 3) := by decide +kernel
theorem dX0_placeOf_22 : decode cX0_placeOf 22 = .ok (.iload_n 3, 1) := by decide +kernel
theorem dX0_placeOf_23 : decode cX0_placeOf 23 = .ok (.ireturn, 1) := by decide +kernel
theorem dX0_placeOf_24 : decode cX0_placeOf 24 = .ok (.iinc 3 1, 3) := by decide +kernel
theorem dX0_placeOf_27 : decode cX0_placeOf 27 = .ok (.goto (-25), 3) := by decide +kernel
theorem dX0_placeOf_30 : decode cX0_placeOf 30 = .ok (.iconst (-1), 1) := by decide +kernel
theorem dX0_placeOf_31 : decode cX0_placeOf 31 = .ok (.ireturn, 1) := by decide +kernel
set_option maxRecDepth 20000 in
theorem ggX0_raiseAtHand_X0_at : GoodIn wsX0_raiseAtHand wsX0_at := goodIn_r _ [6, 7, 16, 17, 18, 19, 20, 21, 22, 23, 24] (by decide +kernel) (by decide +kernel)
set_option maxRecDepth 20000 in
theorem gX0_raiseAtHand_X0_at : GoodIn wsX0_raiseAtHand (wsV RX0 73 RX0 yX0_at wsX0_at) := goodIn_app (goodIn_of _ (by decide +kernel)) ggX0_raiseAtHand_X0_at
set_option maxRecDepth 20000 in
theorem ggX0_raiseAtHand_X0_put : GoodIn wsX0_raiseAtHand wsX0_put := goodIn_r _ [11, 7, 16, 17, 18, 19, 20, 21, 22, 23, 24] (by decide +kernel) (by decide +kernel)
set_option maxRecDepth 20000 in
theorem gX0_raiseAtHand_X0_put : GoodIn wsX0_raiseAtHand (wsV RX0 23 RX0 yX0_put wsX0_put) := goodIn_app (goodIn_of _ (by decide +kernel)) ggX0_raiseAtHand_X0_put
set_option maxRecDepth 20000 in
theorem ggX0_raiseAtHand_X0_moveHand : GoodIn wsX0_raiseAtHand wsX0_moveHand := goodIn_r _ [15, 1, 16, 17, 18, 19, 20, 21, 22, 23, 24] (by decide +kernel) (by decide +kernel)
set_option maxRecDepth 20000 in
theorem gX0_raiseAtHand_X0_moveHand : GoodIn wsX0_raiseAtHand (wsV RX0 51 RX0 yX0_moveHand wsX0_moveHand) := goodIn_app (goodIn_of _ (by decide +kernel)) ggX0_raiseAtHand_X0_moveHand
theorem dX0_raiseAtHand_0 : decode cX0_raiseAtHand 0 = .ok (.aload_n 0, 1) := by decide +kernel
theorem dX0_raiseAtHand_1 : decode cX0_raiseAtHand 1 = .ok (.aload_n 0, 1) := by decide +kernel
theorem dX0_raiseAtHand_2 : decode cX0_raiseAtHand 2 = .ok (.getfield 54, 3) := by decide +kernel
theorem dX0_raiseAtHand_5 : decode cX0_raiseAtHand 5 = .ok (.iconst 0, 1) := by decide +kernel
theorem dX0_raiseAtHand_6 : decode cX0_raiseAtHand 6 = .ok (.invokevirtual 73, 3) := by decide +kernel
theorem dX0_raiseAtHand_9 : decode cX0_raiseAtHand 9 = .ok (.iconst 1, 1) := by decide +kernel
theorem dX0_raiseAtHand_10 : decode cX0_raiseAtHand 10 = .ok (.iadd, 1) := by decide +kernel
theorem dX0_raiseAtHand_11 : decode cX0_raiseAtHand 11 = .ok (.istore_n 1, 1) := by decide +kernel
theorem dX0_raiseAtHand_12 : decode cX0_raiseAtHand 12 = .ok (.aload_n 0, 1) := by decide +kernel
theorem dX0_raiseAtHand_13 : decode cX0_raiseAtHand 13 = .ok (.aload_n 0, 1) := by decide +kernel
theorem dX0_raiseAtHand_14 : decode cX0_raiseAtHand 14 = .ok (.getfield 54, 3) := by decide +kernel
theorem dX0_raiseAtHand_17 : decode cX0_raiseAtHand 17 = .ok (.iconst 0, 1) := by decide +kernel
theorem dX0_raiseAtHand_18 : decode cX0_raiseAtHand 18 = .ok (.iload_n 1, 1) := by decide +kernel
theorem dX0_raiseAtHand_19 : decode cX0_raiseAtHand 19 = .ok (.invokevirtual 23, 3) := by decide +kernel
theorem dX0_raiseAtHand_22 : decode cX0_raiseAtHand 22 = .ok (.iload_n 1, 1) := by decide +kernel
theorem dX0_raiseAtHand_23 : decode cX0_raiseAtHand 23 = .ok (.ifCond .ne 5, 3) := by decide +kernel
theorem dX0_raiseAtHand_26 : decode cX0_raiseAtHand 26 = .ok (.iconst 1, 1) := by decide +kernel
theorem dX0_raiseAtHand_27 : decode cX0_raiseAtHand 27 = .ok (.ireturn, 1) := by decide +kernel
theorem dX0_raiseAtHand_28 : decode cX0_raiseAtHand 28 = .ok (.iload_n 1, 1) := by decide +kernel
theorem dX0_raiseAtHand_29 : decode cX0_raiseAtHand 29 = .ok (.iconst 2, 1) := by decide +kernel
theorem dX0_raiseAtHand_30 : decode cX0_raiseAtHand 30 = .ok (.irem, 1) := by decide +kernel
theorem dX0_raiseAtHand_31 : decode cX0_raiseAtHand 31 = .ok (.ifCond .ne 7, 3) := by decide +kernel
theorem dX0_raiseAtHand_34 : decode cX0_raiseAtHand 34 = .ok (.aload_n 0, 1) := by decide +kernel
theorem dX0_raiseAtHand_35 : decode cX0_raiseAtHand 35 = .ok (.invokevirtual 51, 3) := by decide +kernel
theorem dX0_raiseAtHand_38 : decode cX0_raiseAtHand 38 = .ok (.iconst 0, 1) := by decide +kernel
theorem dX0_raiseAtHand_39 : decode cX0_raiseAtHand 39 = .ok (.ireturn, 1) := by decide +kernel
set_option maxRecDepth 20000 in
theorem ggX0_bringHeld_X0_at : GoodIn wsX0_bringHeld wsX0_at := goodIn_r _ [7, 8, 13, 14, 15, 16, 17, 18, 19, 20, 21] (by decide +kernel) (by decide +kernel)
set_option maxRecDepth 20000 in
theorem gX0_bringHeld_X0_at : GoodIn wsX0_bringHeld (wsV RX0 73 RX0 yX0_at wsX0_at) := goodIn_app (goodIn_of _ (by decide +kernel)) ggX0_bringHeld_X0_at
set_option maxRecDepth 20000 in
theorem ggX0_bringHeld_X0_put : GoodIn wsX0_bringHeld wsX0_put := goodIn_r _ [12, 8, 13, 14, 15, 16, 17, 18, 19, 20, 21] (by decide +kernel) (by decide +kernel)
set_option maxRecDepth 20000 in
theorem gX0_bringHeld_X0_put : GoodIn wsX0_bringHeld (wsV RX0 23 RX0 yX0_put wsX0_put) := goodIn_app (goodIn_of _ (by decide +kernel)) ggX0_bringHeld_X0_put
theorem dX0_bringHeld_0 : decode cX0_bringHeld 0 = .ok (.iconst 0, 1) := by decide +kernel
theorem dX0_bringHeld_1 : decode cX0_bringHeld 1 = .ok (.istore_n 3, 1) := by decide +kernel
theorem dX0_bringHeld_2 : decode cX0_bringHeld 2 = .ok (.iload_n 3, 1) := by decide +kernel
theorem dX0_bringHeld_3 : decode cX0_bringHeld 3 = .ok (.aload_n 0, 1) := by decide +kernel
theorem dX0_bringHeld_4 : decode cX0_bringHeld 4 = .ok (.getfield 9, 3) := by decide +kernel
theorem dX0_bringHeld_7 : decode cX0_bringHeld 7 = .ok (.iload_n 1, 1) := by decide +kernel
theorem dX0_bringHeld_8 : decode cX0_bringHeld 8 = .ok (.iaload, 1) := by decide +kernel
theorem dX0_bringHeld_9 : decode cX0_bringHeld 9 = .ok (.if_icmp .ge 49, 3) := by decide +kernel
theorem dX0_bringHeld_12 : decode cX0_bringHeld 12 = .ok (.aload_n 0, 1) := by decide +kernel
theorem dX0_bringHeld_13 : decode cX0_bringHeld 13 = .ok (.iload_n 1, 1) := by decide +kernel
theorem dX0_bringHeld_14 : decode cX0_bringHeld 14 = .ok (.iload_n 3, 1) := by decide +kernel
theorem dX0_bringHeld_15 : decode cX0_bringHeld 15 = .ok (.invokevirtual 73, 3) := by decide +kernel
theorem dX0_bringHeld_18 : decode cX0_bringHeld 18 = .ok (.istore 4, 2) := by decide +kernel
theorem dX0_bringHeld_20 : decode cX0_bringHeld 20 = .ok (.aload_n 0, 1) := by decide +kernel
theorem dX0_bringHeld_21 : decode cX0_bringHeld 21 = .ok (.dup, 1) := by decide +kernel
theorem dX0_bringHeld_22 : decode cX0_bringHeld 22 = .ok (.getfield 97, 3) := by decide +kernel
theorem dX0_bringHeld_25 : decode cX0_bringHeld 25 = .ok (.iload 4, 2) := by decide +kernel
theorem dX0_bringHeld_27 : decode cX0_bringHeld 27 = .ok (.i2l, 1) := by decide +kernel
theorem dX0_bringHeld_28 : decode cX0_bringHeld 28 = .ok (.ladd, 1) := by decide +kernel
theorem dX0_bringHeld_29 : decode cX0_bringHeld 29 = .ok (.putfield 97, 3) := by decide +kernel
theorem dX0_bringHeld_32 : decode cX0_bringHeld 32 = .ok (.iload_n 2, 1) := by decide +kernel
theorem dX0_bringHeld_33 : decode cX0_bringHeld 33 = .ok (.ifCond .ne 10, 3) := by decide +kernel
theorem dX0_bringHeld_36 : decode cX0_bringHeld 36 = .ok (.aload_n 0, 1) := by decide +kernel
theorem dX0_bringHeld_37 : decode cX0_bringHeld 37 = .ok (.iload_n 1, 1) := by decide +kernel
theorem dX0_bringHeld_38 : decode cX0_bringHeld 38 = .ok (.iload_n 3, 1) := by decide +kernel
theorem dX0_bringHeld_39 : decode cX0_bringHeld 39 = .ok (.iconst 0, 1) := by decide +kernel
theorem dX0_bringHeld_40 : decode cX0_bringHeld 40 = .ok (.invokevirtual 23, 3) := by decide +kernel
theorem dX0_bringHeld_43 : decode cX0_bringHeld 43 = .ok (.iload 4, 2) := by decide +kernel
theorem dX0_bringHeld_45 : decode cX0_bringHeld 45 = .ok (.ifCond .ge 7, 3) := by decide +kernel
theorem dX0_bringHeld_48 : decode cX0_bringHeld 48 = .ok (.iload_n 3, 1) := by decide +kernel
theorem dX0_bringHeld_49 : decode cX0_bringHeld 49 = .ok (.iconst 1, 1) := by decide +kernel
theorem dX0_bringHeld_50 : decode cX0_bringHeld 50 = .ok (.iadd, 1) := by decide +kernel
theorem dX0_bringHeld_51 : decode cX0_bringHeld 51 = .ok (.ireturn, 1) := by decide +kernel
theorem dX0_bringHeld_52 : decode cX0_bringHeld 52 = .ok (.iinc 3 1, 3) := by decide +kernel
theorem dX0_bringHeld_55 : decode cX0_bringHeld 55 = .ok (.goto (-53), 3) := by decide +kernel
theorem dX0_bringHeld_58 : decode cX0_bringHeld 58 = .ok (.aload_n 0, 1) := by decide +kernel
theorem dX0_bringHeld_59 : decode cX0_bringHeld 59 = .ok (.getfield 9, 3) := by decide +kernel
theorem dX0_bringHeld_62 : decode cX0_bringHeld 62 = .ok (.iload_n 1, 1) := by decide +kernel
theorem dX0_bringHeld_63 : decode cX0_bringHeld 63 = .ok (.iaload, 1) := by decide +kernel
theorem dX0_bringHeld_64 : decode cX0_bringHeld 64 = .ok (.ireturn, 1) := by decide +kernel
set_option maxRecDepth 20000 in
theorem ggX0_hold_X0_isThere : GoodIn wsX0_hold wsX0_isThere := goodIn_r _ [13, 14, 15, 16, 12, 17, 18, 19, 20, 21, 22, 23, 24, 25, 26] (by decide +kernel) (by decide +kernel)
set_option maxRecDepth 20000 in
theorem gX0_hold_X0_isThere : GoodIn wsX0_hold (wsV RX0 20 RX0 yX0_isThere wsX0_isThere) := goodIn_app (goodIn_of _ (by decide +kernel)) ggX0_hold_X0_isThere
theorem dX0_hold_0 : decode cX0_hold 0 = .ok (.aload_n 0, 1) := by decide +kernel
theorem dX0_hold_1 : decode cX0_hold 1 = .ok (.dup, 1) := by decide +kernel
theorem dX0_hold_2 : decode cX0_hold 2 = .ok (.getfield 78, 3) := by decide +kernel
theorem dX0_hold_5 : decode cX0_hold 5 = .ok (.iconst 1, 1) := by decide +kernel
theorem dX0_hold_6 : decode cX0_hold 6 = .ok (.iadd, 1) := by decide +kernel
theorem dX0_hold_7 : decode cX0_hold 7 = .ok (.putfield 78, 3) := by decide +kernel
theorem dX0_hold_10 : decode cX0_hold 10 = .ok (.aload_n 0, 1) := by decide +kernel
theorem dX0_hold_11 : decode cX0_hold 11 = .ok (.iload_n 1, 1) := by decide +kernel
theorem dX0_hold_12 : decode cX0_hold 12 = .ok (.invokevirtual 20, 3) := by decide +kernel
theorem dX0_hold_15 : decode cX0_hold 15 = .ok (.ifCond .ne 5, 3) := by decide +kernel
theorem dX0_hold_18 : decode cX0_hold 18 = .ok (.iconst 0, 1) := by decide +kernel
theorem dX0_hold_19 : decode cX0_hold 19 = .ok (.ireturn, 1) := by decide +kernel
theorem dX0_hold_20 : decode cX0_hold 20 = .ok (.aload_n 0, 1) := by decide +kernel
theorem dX0_hold_21 : decode cX0_hold 21 = .ok (.dup, 1) := by decide +kernel
theorem dX0_hold_22 : decode cX0_hold 22 = .ok (.getfield 81, 3) := by decide +kernel
theorem dX0_hold_25 : decode cX0_hold 25 = .ok (.iconst 1, 1) := by decide +kernel
theorem dX0_hold_26 : decode cX0_hold 26 = .ok (.iadd, 1) := by decide +kernel
theorem dX0_hold_27 : decode cX0_hold 27 = .ok (.putfield 81, 3) := by decide +kernel
theorem dX0_hold_30 : decode cX0_hold 30 = .ok (.aload_n 0, 1) := by decide +kernel
theorem dX0_hold_31 : decode cX0_hold 31 = .ok (.dup, 1) := by decide +kernel
theorem dX0_hold_32 : decode cX0_hold 32 = .ok (.getfield 87, 3) := by decide +kernel
theorem dX0_hold_35 : decode cX0_hold 35 = .ok (.iconst 1, 1) := by decide +kernel
theorem dX0_hold_36 : decode cX0_hold 36 = .ok (.iadd, 1) := by decide +kernel
theorem dX0_hold_37 : decode cX0_hold 37 = .ok (.putfield 87, 3) := by decide +kernel
theorem dX0_hold_40 : decode cX0_hold 40 = .ok (.aload_n 0, 1) := by decide +kernel
theorem dX0_hold_41 : decode cX0_hold 41 = .ok (.aload_n 0, 1) := by decide +kernel
theorem dX0_hold_42 : decode cX0_hold 42 = .ok (.getfield 90, 3) := by decide +kernel
theorem dX0_hold_45 : decode cX0_hold 45 = .ok (.aload_n 0, 1) := by decide +kernel
theorem dX0_hold_46 : decode cX0_hold 46 = .ok (.getfield 87, 3) := by decide +kernel
theorem dX0_hold_49 : decode cX0_hold 49 = .ok (.invokestatic 118, 3) := by decide +kernel
theorem dX0_hold_52 : decode cX0_hold 52 = .ok (.putfield 90, 3) := by decide +kernel
theorem dX0_hold_55 : decode cX0_hold 55 = .ok (.iconst 1, 1) := by decide +kernel
theorem dX0_hold_56 : decode cX0_hold 56 = .ok (.ireturn, 1) := by decide +kernel
theorem dX0_letGo_0 : decode cX0_letGo 0 = .ok (.aload_n 0, 1) := by decide +kernel
theorem dX0_letGo_1 : decode cX0_letGo 1 = .ok (.dup, 1) := by decide +kernel
theorem dX0_letGo_2 : decode cX0_letGo 2 = .ok (.getfield 87, 3) := by decide +kernel
theorem dX0_letGo_5 : decode cX0_letGo 5 = .ok (.iconst 1, 1) := by decide +kernel
theorem dX0_letGo_6 : decode cX0_letGo 6 = .ok (.isub, 1) := by decide +kernel
theorem dX0_letGo_7 : decode cX0_letGo 7 = .ok (.putfield 87, 3) := by decide +kernel
theorem dX0_letGo_10 : decode cX0_letGo 10 = .ok (.return_, 1) := by decide +kernel
set_option maxRecDepth 20000 in
theorem ggX0_release_X0_letGo : GoodIn wsX0_release wsX0_letGo := goodIn_r _ [6, 7, 11, 12, 13, 14, 15, 16, 17, 18, 19] (by decide +kernel) (by decide +kernel)
set_option maxRecDepth 20000 in
theorem gX0_release_X0_letGo : GoodIn wsX0_release (wsV RX0 62 RX0 yX0_letGo wsX0_letGo) := goodIn_app (goodIn_of _ (by decide +kernel)) ggX0_release_X0_letGo
set_option maxRecDepth 20000 in
theorem ggX0_release_X0_isFailure : GoodIn wsX0_release wsX0_isFailure := goodIn_r _ [10] (by decide +kernel) (by decide +kernel)
set_option maxRecDepth 20000 in
theorem gX0_release_X0_isFailure : GoodIn wsX0_release (va_wsS RX0 109 yX0_isFailure wsX0_isFailure) := goodIn_app (goodIn_of _ (by decide +kernel)) ggX0_release_X0_isFailure
theorem dX0_release_0 : decode cX0_release 0 = .ok (.aload_n 0, 1) := by decide +kernel
theorem dX0_release_1 : decode cX0_release 1 = .ok (.invokevirtual 62, 3) := by decide +kernel
theorem dX0_release_4 : decode cX0_release 4 = .ok (.iload_n 1, 1) := by decide +kernel
theorem dX0_release_5 : decode cX0_release 5 = .ok (.invokestatic 109, 3) := by decide +kernel
theorem dX0_release_8 : decode cX0_release 8 = .ok (.ifCond .eq 13, 3) := by decide +kernel
theorem dX0_release_11 : decode cX0_release 11 = .ok (.aload_n 0, 1) := by decide +kernel
theorem dX0_release_12 : decode cX0_release 12 = .ok (.dup, 1) := by decide +kernel
theorem dX0_release_13 : decode cX0_release 13 = .ok (.getfield 84, 3) := by decide +kernel
theorem dX0_release_16 : decode cX0_release 16 = .ok (.iconst 1, 1) := by decide +kernel
theorem dX0_release_17 : decode cX0_release 17 = .ok (.iadd, 1) := by decide +kernel
theorem dX0_release_18 : decode cX0_release 18 = .ok (.putfield 84, 3) := by decide +kernel
theorem dX0_release_21 : decode cX0_release 21 = .ok (.iload_n 1, 1) := by decide +kernel
theorem dX0_release_22 : decode cX0_release 22 = .ok (.ireturn, 1) := by decide +kernel
theorem dX0_isFailure_0 : decode cX0_isFailure 0 = .ok (.iload_n 0, 1) := by decide +kernel
theorem dX0_isFailure_1 : decode cX0_isFailure 1 = .ok (.bipush (-11), 2) := by decide +kernel
theorem dX0_isFailure_3 : decode cX0_isFailure 3 = .ok (.if_icmp .gt 7, 3) := by decide +kernel
theorem dX0_isFailure_6 : decode cX0_isFailure 6 = .ok (.iconst 1, 1) := by decide +kernel
theorem dX0_isFailure_7 : decode cX0_isFailure 7 = .ok (.goto 4, 3) := by decide +kernel
theorem dX0_isFailure_10 : decode cX0_isFailure 10 = .ok (.iconst 0, 1) := by decide +kernel
theorem dX0_isFailure_11 : decode cX0_isFailure 11 = .ok (.ireturn, 1) := by decide +kernel
theorem dX0_isDesk_0 : decode cX0_isDesk 0 = .ok (.iload_n 0, 1) := by decide +kernel
theorem dX0_isDesk_1 : decode cX0_isDesk 1 = .ok (.ifCond .lt 13, 3) := by decide +kernel
theorem dX0_isDesk_4 : decode cX0_isDesk 4 = .ok (.iload_n 0, 1) := by decide +kernel
theorem dX0_isDesk_5 : decode cX0_isDesk 5 = .ok (.bipush 8, 2) := by decide +kernel
theorem dX0_isDesk_7 : decode cX0_isDesk 7 = .ok (.if_icmp .ge 7, 3) := by decide +kernel
theorem dX0_isDesk_10 : decode cX0_isDesk 10 = .ok (.iconst 1, 1) := by decide +kernel
theorem dX0_isDesk_11 : decode cX0_isDesk 11 = .ok (.goto 4, 3) := by decide +kernel
theorem dX0_isDesk_14 : decode cX0_isDesk 14 = .ok (.iconst 0, 1) := by decide +kernel
theorem dX0_isDesk_15 : decode cX0_isDesk 15 = .ok (.ireturn, 1) := by decide +kernel
set_option maxRecDepth 20000 in
theorem ggX0_isThere_X0_isDesk : GoodIn wsX0_isThere wsX0_isDesk := goodIn_r _ [5] (by decide +kernel) (by decide +kernel)
set_option maxRecDepth 20000 in
theorem gX0_isThere_X0_isDesk : GoodIn wsX0_isThere (va_wsS RX0 16 yX0_isDesk wsX0_isDesk) := goodIn_app (goodIn_of _ (by decide +kernel)) ggX0_isThere_X0_isDesk
theorem dX0_isThere_0 : decode cX0_isThere 0 = .ok (.iload_n 1, 1) := by decide +kernel
theorem dX0_isThere_1 : decode cX0_isThere 1 = .ok (.invokestatic 16, 3) := by decide +kernel
theorem dX0_isThere_4 : decode cX0_isThere 4 = .ok (.ifCond .eq 16, 3) := by decide +kernel
theorem dX0_isThere_7 : decode cX0_isThere 7 = .ok (.aload_n 0, 1) := by decide +kernel
theorem dX0_isThere_8 : decode cX0_isThere 8 = .ok (.getfield 9, 3) := by decide +kernel
theorem dX0_isThere_11 : decode cX0_isThere 11 = .ok (.iload_n 1, 1) := by decide +kernel
theorem dX0_isThere_12 : decode cX0_isThere 12 = .ok (.iaload, 1) := by decide +kernel
theorem dX0_isThere_13 : decode cX0_isThere 13 = .ok (.ifCond .le 7, 3) := by decide +kernel
theorem dX0_isThere_16 : decode cX0_isThere 16 = .ok (.iconst 1, 1) := by decide +kernel
theorem dX0_isThere_17 : decode cX0_isThere 17 = .ok (.goto 4, 3) := by decide +kernel
theorem dX0_isThere_20 : decode cX0_isThere 20 = .ok (.iconst 0, 1) := by decide +kernel
theorem dX0_isThere_21 : decode cX0_isThere 21 = .ok (.ireturn, 1) := by decide +kernel
set_option maxRecDepth 20000 in
theorem ggX0_hasPlace_X0_isDesk : GoodIn wsX0_hasPlace wsX0_isDesk := goodIn_r _ [5] (by decide +kernel) (by decide +kernel)
set_option maxRecDepth 20000 in
theorem gX0_hasPlace_X0_isDesk : GoodIn wsX0_hasPlace (va_wsS RX0 16 yX0_isDesk wsX0_isDesk) := goodIn_app (goodIn_of _ (by decide +kernel)) ggX0_hasPlace_X0_isDesk
theorem dX0_hasPlace_0 : decode cX0_hasPlace 0 = .ok (.iload_n 1, 1) := by decide +kernel
theorem dX0_hasPlace_1 : decode cX0_hasPlace 1 = .ok (.invokestatic 16, 3) := by decide +kernel
theorem dX0_hasPlace_4 : decode cX0_hasPlace 4 = .ok (.ifCond .eq 21, 3) := by decide +kernel
theorem dX0_hasPlace_7 : decode cX0_hasPlace 7 = .ok (.iload_n 2, 1) := by decide +kernel
theorem dX0_hasPlace_8 : decode cX0_hasPlace 8 = .ok (.ifCond .lt 17, 3) := by decide +kernel
theorem dX0_hasPlace_11 : decode cX0_hasPlace 11 = .ok (.iload_n 2, 1) := by decide +kernel
theorem dX0_hasPlace_12 : decode cX0_hasPlace 12 = .ok (.aload_n 0, 1) := by decide +kernel
theorem dX0_hasPlace_13 : decode cX0_hasPlace 13 = .ok (.getfield 9, 3) := by decide +kernel
theorem dX0_hasPlace_16 : decode cX0_hasPlace 16 = .ok (.iload_n 1, 1) := by decide +kernel
theorem dX0_hasPlace_17 : decode cX0_hasPlace 17 = .ok (.iaload, 1) := by decide +kernel
theorem dX0_hasPlace_18 : decode cX0_hasPlace 18 = .ok (.if_icmp .ge 7, 3) := by decide +kernel
theorem dX0_hasPlace_21 : decode cX0_hasPlace 21 = .ok (.iconst 1, 1) := by decide +kernel
theorem dX0_hasPlace_22 : decode cX0_hasPlace 22 = .ok (.goto 4, 3) := by decide +kernel
theorem dX0_hasPlace_25 : decode cX0_hasPlace 25 = .ok (.iconst 0, 1) := by decide +kernel
theorem dX0_hasPlace_26 : decode cX0_hasPlace 26 = .ok (.ireturn, 1) := by decide +kernel
theorem dX0_at_0 : decode cX0_at 0 = .ok (.aload_n 0, 1) := by decide +kernel
theorem dX0_at_1 : decode cX0_at 1 = .ok (.getfield 13, 3) := by decide +kernel
theorem dX0_at_4 : decode cX0_at 4 = .ok (.iload_n 1, 1) := by decide +kernel
theorem dX0_at_5 : decode cX0_at 5 = .ok (.bipush 8, 2) := by decide +kernel
theorem dX0_at_7 : decode cX0_at 7 = .ok (.imul, 1) := by decide +kernel
theorem dX0_at_8 : decode cX0_at 8 = .ok (.iload_n 2, 1) := by decide +kernel
theorem dX0_at_9 : decode cX0_at 9 = .ok (.iadd, 1) := by decide +kernel
theorem dX0_at_10 : decode cX0_at 10 = .ok (.iaload, 1) := by decide +kernel
theorem dX0_at_11 : decode cX0_at 11 = .ok (.ireturn, 1) := by decide +kernel
theorem dX0_put_0 : decode cX0_put 0 = .ok (.aload_n 0, 1) := by decide +kernel
theorem dX0_put_1 : decode cX0_put 1 = .ok (.getfield 13, 3) := by decide +kernel
theorem dX0_put_4 : decode cX0_put 4 = .ok (.iload_n 1, 1) := by decide +kernel
theorem dX0_put_5 : decode cX0_put 5 = .ok (.bipush 8, 2) := by decide +kernel
theorem dX0_put_7 : decode cX0_put 7 = .ok (.imul, 1) := by decide +kernel
theorem dX0_put_8 : decode cX0_put 8 = .ok (.iload_n 2, 1) := by decide +kernel
theorem dX0_put_9 : decode cX0_put 9 = .ok (.iadd, 1) := by decide +kernel
theorem dX0_put_10 : decode cX0_put 10 = .ok (.iload_n 3, 1) := by decide +kernel
theorem dX0_put_11 : decode cX0_put 11 = .ok (.iastore, 1) := by decide +kernel
theorem dX0_put_12 : decode cX0_put 12 = .ok (.return_, 1) := by decide +kernel
theorem dX0_moveHand_0 : decode cX0_moveHand 0 = .ok (.aload_n 0, 1) := by decide +kernel
theorem dX0_moveHand_1 : decode cX0_moveHand 1 = .ok (.aload_n 0, 1) := by decide +kernel
theorem dX0_moveHand_2 : decode cX0_moveHand 2 = .ok (.getfield 54, 3) := by decide +kernel
theorem dX0_moveHand_5 : decode cX0_moveHand 5 = .ok (.iconst 1, 1) := by decide +kernel
theorem dX0_moveHand_6 : decode cX0_moveHand 6 = .ok (.iadd, 1) := by decide +kernel
theorem dX0_moveHand_7 : decode cX0_moveHand 7 = .ok (.bipush 8, 2) := by decide +kernel
theorem dX0_moveHand_9 : decode cX0_moveHand 9 = .ok (.if_icmp .ge 12, 3) := by decide +kernel
theorem dX0_moveHand_12 : decode cX0_moveHand 12 = .ok (.aload_n 0, 1) := by decide +kernel
theorem dX0_moveHand_13 : decode cX0_moveHand 13 = .ok (.getfield 54, 3) := by decide +kernel
theorem dX0_moveHand_16 : decode cX0_moveHand 16 = .ok (.iconst 1, 1) := by decide +kernel
theorem dX0_moveHand_17 : decode cX0_moveHand 17 = .ok (.iadd, 1) := by decide +kernel
theorem dX0_moveHand_18 : decode cX0_moveHand 18 = .ok (.goto 4, 3) := by decide +kernel
theorem dX0_moveHand_21 : decode cX0_moveHand 21 = .ok (.iconst 0, 1) := by decide +kernel
theorem dX0_moveHand_22 : decode cX0_moveHand 22 = .ok (.putfield 54, 3) := by decide +kernel
theorem dX0_moveHand_25 : decode cX0_moveHand 25 = .ok (.return_, 1) := by decide +kernel
set_option maxRecDepth 20000 in
theorem ggX0_countThere_X0_isThere : GoodIn wsX0_countThere wsX0_isThere := goodIn_r _ [5, 6, 7, 8, 4, 9, 10, 11, 12, 13, 14, 15, 16, 17, 18] (by decide +kernel) (by decide +kernel)
set_option maxRecDepth 20000 in
theorem gX0_countThere_X0_isThere : GoodIn wsX0_countThere (wsV RX0 20 RX0 yX0_isThere wsX0_isThere) := goodIn_app (goodIn_of _ (by decide +kernel)) ggX0_countThere_X0_isThere
theorem dX0_countThere_0 : decode cX0_countThere 0 = .ok (.iconst 0, 1) := by decide +kernel
theorem dX0_countThere_1 : decode cX0_countThere 1 = .ok (.istore_n 1, 1) := by decide +kernel
theorem dX0_countThere_2 : decode cX0_countThere 2 = .ok (.iconst 0, 1) := by decide +kernel
theorem dX0_countThere_3 : decode cX0_countThere 3 = .ok (.istore_n 2, 1) := by decide +kernel
theorem dX0_countThere_4 : decode cX0_countThere 4 = .ok (.iload_n 2, 1) := by decide +kernel
theorem dX0_countThere_5 : decode cX0_countThere 5 = .ok (.bipush 8, 2) := by decide +kernel
theorem dX0_countThere_7 : decode cX0_countThere 7 = .ok (.if_icmp .ge 20, 3) := by decide +kernel
theorem dX0_countThere_10 : decode cX0_countThere 10 = .ok (.aload_n 0, 1) := by decide +kernel
theorem dX0_countThere_11 : decode cX0_countThere 11 = .ok (.iload_n 2, 1) := by decide +kernel
theorem dX0_countThere_12 : decode cX0_countThere 12 = .ok (.invokevirtual 20, 3) := by decide +kernel
theorem dX0_countThere_15 : decode cX0_countThere 15 = .ok (.ifCond .eq 6, 3) := by decide +kernel
theorem dX0_countThere_18 : decode cX0_countThere 18 = .ok (.iinc 1 1, 3) := by decide +kernel
theorem dX0_countThere_21 : decode cX0_countThere 21 = .ok (.iinc 2 1, 3) := by decide +kernel
theorem dX0_countThere_24 : decode cX0_countThere 24 = .ok (.goto (-20), 3) := by decide +kernel
theorem dX0_countThere_27 : decode cX0_countThere 27 = .ok (.iload_n 1, 1) := by decide +kernel
theorem dX0_countThere_28 : decode cX0_countThere 28 = .ok (.ireturn, 1) := by decide +kernel

theorem dX1_init_0 : decode cX1_init 0 = .ok (.aload_n 0, 1) := by decide +kernel
theorem dX1_init_1 : decode cX1_init 1 = .ok (.invokespecial 1, 3) := by decide +kernel
theorem dX1_init_4 : decode cX1_init 4 = .ok (.aload_n 0, 1) := by decide +kernel
theorem dX1_init_5 : decode cX1_init 5 = .ok (.bipush 8, 2) := by decide +kernel
theorem dX1_init_7 : decode cX1_init 7 = .ok (.newarray .int, 2) := by decide +kernel
theorem dX1_init_9 : decode cX1_init 9 = .ok (.putfield 9, 3) := by decide +kernel
theorem dX1_init_12 : decode cX1_init 12 = .ok (.aload_n 0, 1) := by decide +kernel
theorem dX1_init_13 : decode cX1_init 13 = .ok (.bipush 64, 2) := by decide +kernel
theorem dX1_init_15 : decode cX1_init 15 = .ok (.newarray .int, 2) := by decide +kernel
theorem dX1_init_17 : decode cX1_init 17 = .ok (.putfield 13, 3) := by decide +kernel
theorem dX1_init_20 : decode cX1_init 20 = .ok (.return_, 1) := by decide +kernel
theorem dX1_in_0 : decode cX1_in 0 = .ok (.iload_n 0, 1) := by decide +kernel
theorem dX1_in_1 : decode cX1_in 1 = .ok (.iload_n 1, 1) := by decide +kernel
theorem dX1_in_2 : decode cX1_in 2 = .ok (.if_icmp .lt 12, 3) := by decide +kernel
theorem dX1_in_5 : decode cX1_in 5 = .ok (.iload_n 0, 1) := by decide +kernel
theorem dX1_in_6 : decode cX1_in 6 = .ok (.iload_n 2, 1) := by decide +kernel
theorem dX1_in_7 : decode cX1_in 7 = .ok (.if_icmp .gt 7, 3) := by decide +kernel
theorem dX1_in_10 : decode cX1_in 10 = .ok (.iconst 1, 1) := by decide +kernel
theorem dX1_in_11 : decode cX1_in 11 = .ok (.goto 4, 3) := by decide +kernel
theorem dX1_in_14 : decode cX1_in 14 = .ok (.iconst 0, 1) := by decide +kernel
theorem dX1_in_15 : decode cX1_in 15 = .ok (.ireturn, 1) := by decide +kernel
set_option maxRecDepth 20000 in
theorem ggX1_isDesk_X1_in : GoodIn wsX1_isDesk wsX1_in := goodIn_r _ [4] (by decide +kernel) (by decide +kernel)
set_option maxRecDepth 20000 in
theorem gX1_isDesk_X1_in : GoodIn wsX1_isDesk (va_wsS RX1 16 yX1_in wsX1_in) := goodIn_app (goodIn_of _ (by decide +kernel)) ggX1_isDesk_X1_in
theorem dX1_isDesk_0 : decode cX1_isDesk 0 = .ok (.iload_n 0, 1) := by decide +kernel
theorem dX1_isDesk_1 : decode cX1_isDesk 1 = .ok (.iconst 0, 1) := by decide +kernel
theorem dX1_isDesk_2 : decode cX1_isDesk 2 = .ok (.bipush 7, 2) := by decide +kernel
theorem dX1_isDesk_4 : decode cX1_isDesk 4 = .ok (.invokestatic 16, 3) := by decide +kernel
theorem dX1_isDesk_7 : decode cX1_isDesk 7 = .ok (.ireturn, 1) := by decide +kernel
theorem dX1_holds_0 : decode cX1_holds 0 = .ok (.aload_n 0, 1) := by decide +kernel
theorem dX1_holds_1 : decode cX1_holds 1 = .ok (.dup, 1) := by decide +kernel
theorem dX1_holds_2 : decode cX1_holds 2 = .ok (.getfield 20, 3) := by decide +kernel
theorem dX1_holds_5 : decode cX1_holds 5 = .ok (.lconst 1, 1) := by decide +kernel
theorem dX1_holds_6 : decode cX1_holds 6 = .ok (.ladd, 1) := by decide +kernel
theorem dX1_holds_7 : decode cX1_holds 7 = .ok (.putfield 20, 3) := by decide +kernel
theorem dX1_holds_10 : decode cX1_holds 10 = .ok (.aload_n 0, 1) := by decide +kernel
theorem dX1_holds_11 : decode cX1_holds 11 = .ok (.getfield 9, 3) := by decide +kernel
theorem dX1_holds_14 : decode cX1_holds 14 = .ok (.iload_n 1, 1) := by decide +kernel
theorem dX1_holds_15 : decode cX1_holds 15 = .ok (.iaload, 1) := by decide +kernel
theorem dX1_holds_16 : decode cX1_holds 16 = .ok (.ifCond .ne 5, 3) := by decide +kernel
theorem dX1_holds_19 : decode cX1_holds 19 = .ok (.iconst 0, 1) := by decide +kernel
theorem dX1_holds_20 : decode cX1_holds 20 = .ok (.ireturn, 1) := by decide +kernel
theorem dX1_holds_21 : decode cX1_holds 21 = .ok (.aload_n 0, 1) := by decide +kernel
theorem dX1_holds_22 : decode cX1_holds 22 = .ok (.dup, 1) := by decide +kernel
theorem dX1_holds_23 : decode cX1_holds 23 = .ok (.getfield 24, 3) := by decide +kernel
theorem dX1_holds_26 : decode cX1_holds 26 = .ok (.lconst 1, 1) := by decide +kernel
theorem dX1_holds_27 : decode cX1_holds 27 = .ok (.ladd, 1) := by decide +kernel
theorem dX1_holds_28 : decode cX1_holds 28 = .ok (.putfield 24, 3) := by decide +kernel
theorem dX1_holds_31 : decode cX1_holds 31 = .ok (.aload_n 0, 1) := by decide +kernel
theorem dX1_holds_32 : decode cX1_holds 32 = .ok (.dup, 1) := by decide +kernel
theorem dX1_holds_33 : decode cX1_holds 33 = .ok (.getfield 27, 3) := by decide +kernel
theorem dX1_holds_36 : decode cX1_holds 36 = .ok (.iconst 1, 1) := by decide +kernel
theorem dX1_holds_37 : decode cX1_holds 37 = .ok (.iadd, 1) := by decide +kernel
theorem dX1_holds_38 : decode cX1_holds 38 = .ok (.putfield 27, 3) := by decide +kernel
theorem dX1_holds_41 : decode cX1_holds 41 = .ok (.aload_n 0, 1) := by decide +kernel
theorem dX1_holds_42 : decode cX1_holds 42 = .ok (.aload_n 0, 1) := by decide +kernel
theorem dX1_holds_43 : decode cX1_holds 43 = .ok (.getfield 27, 3) := by decide +kernel
theorem dX1_holds_46 : decode cX1_holds 46 = .ok (.aload_n 0, 1) := by decide +kernel
theorem dX1_holds_47 : decode cX1_holds 47 = .ok (.getfield 31, 3) := by decide +kernel
theorem dX1_holds_50 : decode cX1_holds 50 = .ok (.if_icmp .le 10, 3) := by decide +kernel
theorem dX1_holds_53 : decode cX1_holds 53 = .ok (.aload_n 0, 1) := by decide +kernel
theorem dX1_holds_54 : decode cX1_holds 54 = .ok (.getfield 27, 3) := by decide +kernel
theorem dX1_holds_57 : decode cX1_holds 57 = .ok (.goto 7, 3) := by decide +kernel
theorem dX1_holds_60 : decode cX1_holds 60 = .ok (.aload_n 0, 1) := by decide +kernel
theorem dX1_holds_61 : decode cX1_holds 61 = .ok (.getfield 31, 3) := by decide +kernel
theorem dX1_holds_64 : decode cX1_holds 64 = .ok (.putfield 31, 3) := by decide +kernel
theorem dX1_holds_67 : decode cX1_holds 67 = .ok (.iconst 1, 1) := by decide +kernel
theorem dX1_holds_68 : decode cX1_holds 68 = .ok (.ireturn, 1) := by decide +kernel
theorem dX1_ends_0 : decode cX1_ends 0 = .ok (.aload_n 0, 1) := by decide +kernel
theorem dX1_ends_1 : decode cX1_ends 1 = .ok (.dup, 1) := by decide +kernel
theorem dX1_ends_2 : decode cX1_ends 2 = .ok (.getfield 27, 3) := by decide +kernel
theorem dX1_ends_5 : decode cX1_ends 5 = .ok (.iload_n 1, 1) := by decide +kernel
theorem dX1_ends_6 : decode cX1_ends 6 = .ok (.isub, 1) := by decide +kernel
theorem dX1_ends_7 : decode cX1_ends 7 = .ok (.putfield 27, 3) := by decide +kernel
theorem dX1_ends_10 : decode cX1_ends 10 = .ok (.aload_n 0, 1) := by decide +kernel
theorem dX1_ends_11 : decode cX1_ends 11 = .ok (.dup, 1) := by decide +kernel
theorem dX1_ends_12 : decode cX1_ends 12 = .ok (.getfield 34, 3) := by decide +kernel
theorem dX1_ends_15 : decode cX1_ends 15 = .ok (.iload_n 2, 1) := by decide +kernel
theorem dX1_ends_16 : decode cX1_ends 16 = .ok (.ifCond .le 8, 3) := by decide +kernel
theorem dX1_ends_19 : decode cX1_ends 19 = .ok (.iload_n 1, 1) := by decide +kernel
theorem dX1_ends_20 : decode cX1_ends 20 = .ok (.i2l, 1) := by decide +kernel
theorem dX1_ends_21 : decode cX1_ends 21 = .ok (.goto 4, 3) := by decide +kernel
theorem dX1_ends_24 : decode cX1_ends 24 = .ok (.lconst 0, 1) := by decide +kernel
theorem dX1_ends_25 : decode cX1_ends 25 = .ok (.ladd, 1) := by decide +kernel
theorem dX1_ends_26 : decode cX1_ends 26 = .ok (.putfield 34, 3) := by decide +kernel
theorem dX1_ends_29 : decode cX1_ends 29 = .ok (.iload_n 2, 1) := by decide +kernel
theorem dX1_ends_30 : decode cX1_ends 30 = .ok (.ifCond .le 10, 3) := by decide +kernel
theorem dX1_ends_33 : decode cX1_ends 33 = .ok (.bipush (-10), 2) := by decide +kernel
theorem dX1_ends_35 : decode cX1_ends 35 = .ok (.iload_n 2, 1) := by decide +kernel
theorem dX1_ends_36 : decode cX1_ends 36 = .ok (.isub, 1) := by decide +kernel
theorem dX1_ends_37 : decode cX1_ends 37 = .ok (.goto 4, 3) := by decide +kernel
theorem dX1_ends_40 : decode cX1_ends 40 = .ok (.iconst 0, 1) := by decide +kernel
theorem dX1_ends_41 : decode cX1_ends 41 = .ok (.ireturn, 1) := by decide +kernel
set_option maxRecDepth 20000 in
theorem ggX1_isPlace_X1_in : GoodIn wsX1_isPlace wsX1_in := goodIn_r _ [5] (by decide +kernel) (by decide +kernel)
set_option maxRecDepth 20000 in
theorem gX1_isPlace_X1_in : GoodIn wsX1_isPlace (va_wsS RX1 16 yX1_in wsX1_in) := goodIn_app (goodIn_of _ (by decide +kernel)) ggX1_isPlace_X1_in
theorem dX1_isPlace_0 : decode cX1_isPlace 0 = .ok (.iload_n 2, 1) := by decide +kernel
theorem dX1_isPlace_1 : decode cX1_isPlace 1 = .ok (.iconst 0, 1) := by decide +kernel
theorem dX1_isPlace_2 : decode cX1_isPlace 2 = .ok (.aload_n 0, 1) := by decide +kernel
theorem dX1_isPlace_3 : decode cX1_isPlace 3 = .ok (.getfield 9, 3) := by decide +kernel
theorem dX1_isPlace_6 : decode cX1_isPlace 6 = .ok (.iload_n 1, 1) := by decide +kernel
theorem dX1_isPlace_7 : decode cX1_isPlace 7 = .ok (.iaload, 1) := by decide +kernel
theorem dX1_isPlace_8 : decode cX1_isPlace 8 = .ok (.iconst 1, 1) := by decide +kernel
theorem dX1_isPlace_9 : decode cX1_isPlace 9 = .ok (.isub, 1) := by decide +kernel
theorem dX1_isPlace_10 : decode cX1_isPlace 10 = .ok (.invokestatic 16, 3) := by decide +kernel
theorem dX1_isPlace_13 : decode cX1_isPlace 13 = .ok (.ireturn, 1) := by decide +kernel
theorem dX1_quotient_0 : decode cX1_quotient 0 = .ok (.iload_n 0, 1) := by decide +kernel
theorem dX1_quotient_1 : decode cX1_quotient 1 = .ok (.i2l, 1) := by decide +kernel
theorem dX1_quotient_2 : decode cX1_quotient 2 = .ok (.iload_n 1, 1) := by decide +kernel
theorem dX1_quotient_3 : decode cX1_quotient 3 = .ok (.i2l, 1) := by decide +kernel
theorem dX1_quotient_4 : decode cX1_quotient 4 = .ok (.ldiv, 1) := by decide +kernel
theorem dX1_quotient_5 : decode cX1_quotient 5 = .ok (.l2i, 1) := by decide +kernel
theorem dX1_quotient_6 : decode cX1_quotient 6 = .ok (.ireturn, 1) := by decide +kernel
set_option maxRecDepth 20000 in
theorem ggX1_open_X1_isDesk : GoodIn wsX1_open wsX1_isDesk := goodIn_r _ [6, 7, 8, 5, 9] (by decide +kernel) (by decide +kernel)
set_option maxRecDepth 20000 in
theorem gX1_open_X1_isDesk : GoodIn wsX1_open (va_wsS RX1 37 yX1_isDesk wsX1_isDesk) := goodIn_app (goodIn_of _ (by decide +kernel)) ggX1_open_X1_isDesk
set_option maxRecDepth 20000 in
theorem ggX1_open_X1_in : GoodIn wsX1_open wsX1_in := goodIn_r _ [9] (by decide +kernel) (by decide +kernel)
set_option maxRecDepth 20000 in
theorem gX1_open_X1_in : GoodIn wsX1_open (va_wsS RX1 16 yX1_in wsX1_in) := goodIn_app (goodIn_of _ (by decide +kernel)) ggX1_open_X1_in
theorem dX1_open_0 : decode cX1_open 0 = .ok (.iload_n 1, 1) := by decide +kernel
theorem dX1_open_1 : decode cX1_open 1 = .ok (.invokestatic 37, 3) := by decide +kernel
theorem dX1_open_4 : decode cX1_open 4 = .ok (.ifCond .eq 13, 3) := by decide +kernel
theorem dX1_open_7 : decode cX1_open 7 = .ok (.iload_n 2, 1) := by decide +kernel
theorem dX1_open_8 : decode cX1_open 8 = .ok (.iconst 1, 1) := by decide +kernel
theorem dX1_open_9 : decode cX1_open 9 = .ok (.bipush 8, 2) := by decide +kernel
theorem dX1_open_11 : decode cX1_open 11 = .ok (.invokestatic 16, 3) := by decide +kernel
theorem dX1_open_14 : decode cX1_open 14 = .ok (.ifCond .ne 6, 3) := by decide +kernel
theorem dX1_open_17 : decode cX1_open 17 = .ok (.bipush (-2), 2) := by decide +kernel
theorem dX1_open_19 : decode cX1_open 19 = .ok (.ireturn, 1) := by decide +kernel
theorem dX1_open_20 : decode cX1_open 20 = .ok (.aload_n 0, 1) := by decide +kernel
theorem dX1_open_21 : decode cX1_open 21 = .ok (.getfield 9, 3) := by decide +kernel
theorem dX1_open_24 : decode cX1_open 24 = .ok (.iload_n 1, 1) := by decide +kernel
theorem dX1_open_25 : decode cX1_open 25 = .ok (.iaload, 1) := by decide +kernel
theorem dX1_open_26 : decode cX1_open 26 = .ok (.ifCond .le 5, 3) := by decide +kernel
theorem dX1_open_29 : decode cX1_open 29 = .ok (.iconst 0, 1) := by decide +kernel
theorem dX1_open_30 : decode cX1_open 30 = .ok (.ireturn, 1) := by decide +kernel
theorem dX1_open_31 : decode cX1_open 31 = .ok (.aload_n 0, 1) := by decide +kernel
theorem dX1_open_32 : decode cX1_open 32 = .ok (.getfield 9, 3) := by decide +kernel
theorem dX1_open_35 : decode cX1_open 35 = .ok (.iload_n 1, 1) := by decide +kernel
theorem dX1_open_36 : decode cX1_open 36 = .ok (.iload_n 2, 1) := by decide +kernel
theorem dX1_open_37 : decode cX1_open 37 = .ok (.iastore, 1) := by decide +kernel
theorem dX1_open_38 : decode cX1_open 38 = .ok (.iconst 0, 1) := by decide +kernel
theorem dX1_open_39 : decode cX1_open 39 = .ok (.istore_n 3, 1) := by decide +kernel
theorem dX1_open_40 : decode cX1_open 40 = .ok (.iload_n 3, 1) := by decide +kernel
theorem dX1_open_41 : decode cX1_open 41 = .ok (.bipush 8, 2) := by decide +kernel
theorem dX1_open_43 : decode cX1_open 43 = .ok (.if_icmp .ge 21, 3) := by decide +kernel
theorem dX1_open_46 : decode cX1_open 46 = .ok (.aload_n 0, 1) := by decide +kernel
theorem dX1_open_47 : decode cX1_open 47 = .ok (.getfield 13, 3) := by decide +kernel
theorem dX1_open_50 : decode cX1_open 50 = .ok (.bipush 8, 2) := by decide +kernel
theorem dX1_open_52 : decode cX1_open 52 = .ok (.iload_n 1, 1) := by decide +kernel
theorem dX1_open_53 : decode cX1_open 53 = .ok (.imul, 1) := by decide +kernel
theorem dX1_open_54 : decode cX1_open 54 = .ok (.iload_n 3, 1) := by decide +kernel
theorem dX1_open_55 : decode cX1_open 55 = .ok (.iadd, 1) := by decide +kernel
theorem dX1_open_56 : decode cX1_open 56 = .ok (.iconst 0, 1) := by decide +kernel
theorem dX1_open_57 : decode cX1_open 57 = .ok (.iastore, 1) := by decide +kernel
theorem dX1_open_58 : decode cX1_open 58 = .ok (.iinc 3 1, 3) := by decide +kernel
theorem dX1_open_61 : decode cX1_open 61 = .ok (.goto (-21), 3) := by decide +kernel
theorem dX1_open_64 : decode cX1_open 64 = .ok (.iconst 1, 1) := by decide +kernel
theorem dX1_open_65 : decode cX1_open 65 = .ok (.ireturn, 1) := by decide +kernel
set_option maxRecDepth 20000 in
theorem ggX1_close_X1_isDesk : GoodIn wsX1_close wsX1_isDesk := goodIn_r _ [5, 6, 7, 4, 8] (by decide +kernel) (by decide +kernel)
set_option maxRecDepth 20000 in
theorem gX1_close_X1_isDesk : GoodIn wsX1_close (va_wsS RX1 37 yX1_isDesk wsX1_isDesk) := goodIn_app (goodIn_of _ (by decide +kernel)) ggX1_close_X1_isDesk
theorem dX1_close_0 : decode cX1_close 0 = .ok (.iload_n 1, 1) := by decide +kernel
theorem dX1_close_1 : decode cX1_close 1 = .ok (.invokestatic 37, 3) := by decide +kernel
theorem dX1_close_4 : decode cX1_close 4 = .ok (.ifCond .ne 6, 3) := by decide +kernel
theorem dX1_close_7 : decode cX1_close 7 = .ok (.bipush (-2), 2) := by decide +kernel
theorem dX1_close_9 : decode cX1_close 9 = .ok (.ireturn, 1) := by decide +kernel
theorem dX1_close_10 : decode cX1_close 10 = .ok (.aload_n 0, 1) := by decide +kernel
theorem dX1_close_11 : decode cX1_close 11 = .ok (.getfield 9, 3) := by decide +kernel
theorem dX1_close_14 : decode cX1_close 14 = .ok (.iload_n 1, 1) := by decide +kernel
theorem dX1_close_15 : decode cX1_close 15 = .ok (.iaload, 1) := by decide +kernel
theorem dX1_close_16 : decode cX1_close 16 = .ok (.ifCond .le 7, 3) := by decide +kernel
theorem dX1_close_19 : decode cX1_close 19 = .ok (.iconst 1, 1) := by decide +kernel
theorem dX1_close_20 : decode cX1_close 20 = .ok (.goto 4, 3) := by decide +kernel
theorem dX1_close_23 : decode cX1_close 23 = .ok (.iconst 0, 1) := by decide +kernel
theorem dX1_close_24 : decode cX1_close 24 = .ok (.istore_n 2, 1) := by decide +kernel
theorem dX1_close_25 : decode cX1_close 25 = .ok (.aload_n 0, 1) := by decide +kernel
theorem dX1_close_26 : decode cX1_close 26 = .ok (.getfield 9, 3) := by decide +kernel
theorem dX1_close_29 : decode cX1_close 29 = .ok (.iload_n 1, 1) := by decide +kernel
theorem dX1_close_30 : decode cX1_close 30 = .ok (.iconst 0, 1) := by decide +kernel
theorem dX1_close_31 : decode cX1_close 31 = .ok (.iastore, 1) := by decide +kernel
theorem dX1_close_32 : decode cX1_close 32 = .ok (.iload_n 2, 1) := by decide +kernel
theorem dX1_close_33 : decode cX1_close 33 = .ok (.ireturn, 1) := by decide +kernel
set_option maxRecDepth 20000 in
theorem ggX1_write_X1_isDesk : GoodIn wsX1_write wsX1_isDesk := goodIn_r _ [5, 6, 7, 4, 8] (by decide +kernel) (by decide +kernel)
set_option maxRecDepth 20000 in
theorem gX1_write_X1_isDesk : GoodIn wsX1_write (va_wsS RX1 37 yX1_isDesk wsX1_isDesk) := goodIn_app (goodIn_of _ (by decide +kernel)) ggX1_write_X1_isDesk
set_option maxRecDepth 20000 in
theorem ggX1_write_X1_holds : GoodIn wsX1_write wsX1_holds := goodIn_r _ [12, 13, 14, 15, 16, 17, 27, 28, 29, 30, 31, 32, 33, 34, 35] (by decide +kernel) (by decide +kernel)
set_option maxRecDepth 20000 in
theorem gX1_write_X1_holds : GoodIn wsX1_write (wsV RX1 41 RX1 yX1_holds wsX1_holds) := goodIn_app (goodIn_of _ (by decide +kernel)) ggX1_write_X1_holds
set_option maxRecDepth 20000 in
theorem ggX1_write_X1_isPlace : GoodIn wsX1_write wsX1_isPlace := goodIn_r _ [21, 14, 6, 7, 4, 8, 27, 28, 29, 30, 31, 32, 33, 34, 35] (by decide +kernel) (by decide +kernel)
set_option maxRecDepth 20000 in
theorem gX1_write_X1_isPlace : GoodIn wsX1_write (wsV RX1 44 RX1 yX1_isPlace wsX1_isPlace) := goodIn_app (goodIn_of _ (by decide +kernel)) ggX1_write_X1_isPlace
set_option maxRecDepth 20000 in
theorem ggX1_write_X1_ends : GoodIn wsX1_write wsX1_ends := goodIn_r _ [25, 16, 26, 27, 28, 29, 30, 31, 32, 33, 34, 35] (by decide +kernel) (by decide +kernel)
set_option maxRecDepth 20000 in
theorem gX1_write_X1_ends : GoodIn wsX1_write (wsV RX1 48 RX1 yX1_ends wsX1_ends) := goodIn_app (goodIn_of _ (by decide +kernel)) ggX1_write_X1_ends
theorem dX1_write_0 : decode cX1_write 0 = .ok (.iload_n 1, 1) := by decide +kernel
theorem dX1_write_1 : decode cX1_write 1 = .ok (.invokestatic 37, 3) := by decide +kernel
theorem dX1_write_4 : decode cX1_write 4 = .ok (.ifCond .ne 6, 3) := by decide +kernel
theorem dX1_write_7 : decode cX1_write 7 = .ok (.bipush (-2), 2) := by decide +kernel
theorem dX1_write_9 : decode cX1_write 9 = .ok (.ireturn, 1) := by decide +kernel
theorem dX1_write_10 : decode cX1_write 10 = .ok (.aload_n 0, 1) := by decide +kernel
theorem dX1_write_11 : decode cX1_write 11 = .ok (.iload_n 1, 1) := by decide +kernel
theorem dX1_write_12 : decode cX1_write 12 = .ok (.invokevirtual 41, 3) := by decide +kernel
theorem dX1_write_15 : decode cX1_write 15 = .ok (.ifCond .ne 6, 3) := by decide +kernel
theorem dX1_write_18 : decode cX1_write 18 = .ok (.bipush (-11), 2) := by decide +kernel
theorem dX1_write_20 : decode cX1_write 20 = .ok (.ireturn, 1) := by decide +kernel
theorem dX1_write_21 : decode cX1_write 21 = .ok (.aload_n 0, 1) := by decide +kernel
theorem dX1_write_22 : decode cX1_write 22 = .ok (.iload_n 1, 1) := by decide +kernel
theorem dX1_write_23 : decode cX1_write 23 = .ok (.iload_n 2, 1) := by decide +kernel
theorem dX1_write_24 : decode cX1_write 24 = .ok (.invokevirtual 44, 3) := by decide +kernel
theorem dX1_write_27 : decode cX1_write 27 = .ok (.ifCond .ne 10, 3) := by decide +kernel
theorem dX1_write_30 : decode cX1_write 30 = .ok (.aload_n 0, 1) := by decide +kernel
theorem dX1_write_31 : decode cX1_write 31 = .ok (.iconst 1, 1) := by decide +kernel
theorem dX1_write_32 : decode cX1_write 32 = .ok (.iconst 2, 1) := by decide +kernel
theorem dX1_write_33 : decode cX1_write 33 = .ok (.invokevirtual 48, 3) := by decide +kernel
theorem dX1_write_36 : decode cX1_write 36 = .ok (.ireturn, 1) := by decide +kernel
theorem dX1_write_37 : decode cX1_write 37 = .ok (.aload_n 0, 1) := by decide +kernel
theorem dX1_write_38 : decode cX1_write 38 = .ok (.getfield 13, 3) := by decide +kernel
theorem dX1_write_41 : decode cX1_write 41 = .ok (.bipush 8, 2) := by decide +kernel
theorem dX1_write_43 : decode cX1_write 43 = .ok (.iload_n 1, 1) := by decide +kernel
theorem dX1_write_44 : decode cX1_write 44 = .ok (.imul, 1) := by decide +kernel
theorem dX1_write_45 : decode cX1_write 45 = .ok (.iload_n 2, 1) := by decide +kernel
theorem dX1_write_46 : decode cX1_write 46 = .ok (.iadd, 1) := by decide +kernel
theorem dX1_write_47 : decode cX1_write 47 = .ok (.iload_n 3, 1) := by decide +kernel
theorem dX1_write_48 : decode cX1_write 48 = .ok (.iastore, 1) := by decide +kernel
theorem dX1_write_49 : decode cX1_write 49 = .ok (.aload_n 0, 1) := by decide +kernel
theorem dX1_write_50 : decode cX1_write 50 = .ok (.iconst 1, 1) := by decide +kernel
theorem dX1_write_51 : decode cX1_write 51 = .ok (.iconst 0, 1) := by decide +kernel
theorem dX1_write_52 : decode cX1_write 52 = .ok (.invokevirtual 48, 3) := by decide +kernel
theorem dX1_write_55 : decode cX1_write 55 = .ok (.iconst 1, 1) := by decide +kernel
theorem dX1_write_56 : decode cX1_write 56 = .ok (.iadd, 1) := by decide +kernel
theorem dX1_write_57 : decode cX1_write 57 = .ok (.ireturn, 1) := by decide +kernel
set_option maxRecDepth 20000 in
theorem ggX1_share_X1_isDesk : GoodIn wsX1_share wsX1_isDesk := goodIn_r _ [6, 7, 8, 5, 9] (by decide +kernel) (by decide +kernel)
set_option maxRecDepth 20000 in
theorem gX1_share_X1_isDesk : GoodIn wsX1_share (va_wsS RX1 37 yX1_isDesk wsX1_isDesk) := goodIn_app (goodIn_of _ (by decide +kernel)) ggX1_share_X1_isDesk
set_option maxRecDepth 20000 in
theorem ggX1_share_X1_holds : GoodIn wsX1_share wsX1_holds := goodIn_r _ [13, 14, 1, 15, 16, 17, 30, 31, 32, 33, 34, 35, 36, 37, 38] (by decide +kernel) (by decide +kernel)
set_option maxRecDepth 20000 in
theorem gX1_share_X1_holds : GoodIn wsX1_share (wsV RX1 41 RX1 yX1_holds wsX1_holds) := goodIn_app (goodIn_of _ (by decide +kernel)) ggX1_share_X1_holds
set_option maxRecDepth 20000 in
theorem ggX1_share_X1_ends : GoodIn wsX1_share wsX1_ends := goodIn_r _ [21, 16, 22, 30, 31, 32, 33, 34, 35, 36, 37, 38] (by decide +kernel) (by decide +kernel)
set_option maxRecDepth 20000 in
theorem gX1_share_X1_ends : GoodIn wsX1_share (wsV RX1 48 RX1 yX1_ends wsX1_ends) := goodIn_app (goodIn_of _ (by decide +kernel)) ggX1_share_X1_ends
set_option maxRecDepth 20000 in
theorem ggX1_share_X1_isPlace : GoodIn wsX1_share wsX1_isPlace := goodIn_r _ [26, 1, 7, 8, 5, 9, 30, 31, 32, 33, 34, 35, 36, 37, 38] (by decide +kernel) (by decide +kernel)
set_option maxRecDepth 20000 in
theorem gX1_share_X1_isPlace : GoodIn wsX1_share (wsV RX1 44 RX1 yX1_isPlace wsX1_isPlace) := goodIn_app (goodIn_of _ (by decide +kernel)) ggX1_share_X1_isPlace
set_option maxRecDepth 20000 in
theorem ggX1_share_X1_quotient : GoodIn wsX1_share wsX1_quotient := goodIn_r _ [29] (by decide +kernel) (by decide +kernel)
set_option maxRecDepth 20000 in
theorem gX1_share_X1_quotient : GoodIn wsX1_share (va_wsS RX1 52 yX1_quotient wsX1_quotient) := goodIn_app (goodIn_of _ (by decide +kernel)) ggX1_share_X1_quotient
theorem dX1_share_0 : decode cX1_share 0 = .ok (.iload_n 1, 1) := by decide +kernel
theorem dX1_share_1 : decode cX1_share 1 = .ok (.invokestatic 37, 3) := by decide +kernel
theorem dX1_share_4 : decode cX1_share 4 = .ok (.ifCond .eq 10, 3) := by decide +kernel
theorem dX1_share_7 : decode cX1_share 7 = .ok (.iload_n 2, 1) := by decide +kernel
theorem dX1_share_8 : decode cX1_share 8 = .ok (.invokestatic 37, 3) := by decide +kernel
theorem dX1_share_11 : decode cX1_share 11 = .ok (.ifCond .ne 6, 3) := by decide +kernel
theorem dX1_share_14 : decode cX1_share 14 = .ok (.bipush (-2), 2) := by decide +kernel
theorem dX1_share_16 : decode cX1_share 16 = .ok (.ireturn, 1) := by decide +kernel
theorem dX1_share_17 : decode cX1_share 17 = .ok (.aload_n 0, 1) := by decide +kernel
theorem dX1_share_18 : decode cX1_share 18 = .ok (.iload_n 1, 1) := by decide +kernel
theorem dX1_share_19 : decode cX1_share 19 = .ok (.invokevirtual 41, 3) := by decide +kernel
theorem dX1_share_22 : decode cX1_share 22 = .ok (.ifCond .ne 6, 3) := by decide +kernel
theorem dX1_share_25 : decode cX1_share 25 = .ok (.bipush (-11), 2) := by decide +kernel
theorem dX1_share_27 : decode cX1_share 27 = .ok (.ireturn, 1) := by decide +kernel
theorem dX1_share_28 : decode cX1_share 28 = .ok (.aload_n 0, 1) := by decide +kernel
theorem dX1_share_29 : decode cX1_share 29 = .ok (.iload_n 2, 1) := by decide +kernel
theorem dX1_share_30 : decode cX1_share 30 = .ok (.invokevirtual 41, 3) := by decide +kernel
theorem dX1_share_33 : decode cX1_share 33 = .ok (.ifCond .ne 10, 3) := by decide +kernel
theorem dX1_share_36 : decode cX1_share 36 = .ok (.aload_n 0, 1) := by decide +kernel
theorem dX1_share_37 : decode cX1_share 37 = .ok (.iconst 1, 1) := by decide +kernel
theorem dX1_share_38 : decode cX1_share 38 = .ok (.iconst 1, 1) := by decide +kernel
theorem dX1_share_39 : decode cX1_share 39 = .ok (.invokevirtual 48, 3) := by decide +kernel
theorem dX1_share_42 : decode cX1_share 42 = .ok (.ireturn, 1) := by decide +kernel
theorem dX1_share_43 : decode cX1_share 43 = .ok (.aload_n 0, 1) := by decide +kernel
theorem dX1_share_44 : decode cX1_share 44 = .ok (.iload_n 2, 1) := by decide +kernel
theorem dX1_share_45 : decode cX1_share 45 = .ok (.iload_n 3, 1) := by decide +kernel
theorem dX1_share_46 : decode cX1_share 46 = .ok (.invokevirtual 44, 3) := by decide +kernel
theorem dX1_share_49 : decode cX1_share 49 = .ok (.ifCond .ne 10, 3) := by decide +kernel
theorem dX1_share_52 : decode cX1_share 52 = .ok (.aload_n 0, 1) := by decide +kernel
theorem dX1_share_53 : decode cX1_share 53 = .ok (.iconst 2, 1) := by decide +kernel
theorem dX1_share_54 : decode cX1_share 54 = .ok (.iconst 2, 1) := by decide +kernel
theorem dX1_share_55 : decode cX1_share 55 = .ok (.invokevirtual 48, 3) := by decide +kernel
theorem dX1_share_58 : decode cX1_share 58 = .ok (.ireturn, 1) := by decide +kernel
theorem dX1_share_59 : decode cX1_share 59 = .ok (.iconst 0, 1) := by decide +kernel
theorem dX1_share_60 : decode cX1_share 60 = .ok (.istore 4, 2) := by decide +kernel
theorem dX1_share_62 : decode cX1_share 62 = .ok (.iload 4, 2) := by decide +kernel
theorem dX1_share_64 : decode cX1_share 64 = .ok (.aload_n 0, 1) := by decide +kernel
theorem dX1_share_65 : decode cX1_share 65 = .ok (.getfield 9, 3) := by decide +kernel
theorem dX1_share_68 : decode cX1_share 68 = .ok (.iload_n 1, 1) := by decide +kernel
theorem dX1_share_69 : decode cX1_share 69 = .ok (.iaload, 1) := by decide +kernel
theorem dX1_share_70 : decode cX1_share 70 = .ok (.if_icmp .ge 63, 3) := by decide +kernel
theorem dX1_share_73 : decode cX1_share 73 = .ok (.aload_n 0, 1) := by decide +kernel
theorem dX1_share_74 : decode cX1_share 74 = .ok (.getfield 13, 3) := by decide +kernel
theorem dX1_share_77 : decode cX1_share 77 = .ok (.bipush 8, 2) := by decide +kernel
theorem dX1_share_79 : decode cX1_share 79 = .ok (.iload_n 2, 1) := by decide +kernel
theorem dX1_share_80 : decode cX1_share 80 = .ok (.imul, 1) := by decide +kernel
theorem dX1_share_81 : decode cX1_share 81 = .ok (.iload_n 3, 1) := by decide +kernel
theorem dX1_share_82 : decode cX1_share 82 = .ok (.iadd, 1) := by decide +kernel
theorem dX1_share_83 : decode cX1_share 83 = .ok (.iaload, 1) := by decide +kernel
theorem dX1_share_84 : decode cX1_share 84 = .ok (.istore 5, 2) := by decide +kernel
theorem dX1_share_86 : decode cX1_share 86 = .ok (.iload 5, 2) := by decide +kernel
theorem dX1_share_88 : decode cX1_share 88 = .ok (.ifCond .ne 10, 3) := by decide +kernel
theorem dX1_share_91 : decode cX1_share 91 = .ok (.aload_n 0, 1) := by decide +kernel
theorem dX1_share_92 : decode cX1_share 92 = .ok (.iconst 2, 1) := by decide +kernel
theorem dX1_share_93 : decode cX1_share 93 = .ok (.iconst 3, 1) := by decide +kernel
theorem dX1_share_94 : decode cX1_share 94 = .ok (.invokevirtual 48, 3) := by decide +kernel
theorem dX1_share_97 : decode cX1_share 97 = .ok (.ireturn, 1) := by decide +kernel
theorem dX1_share_98 : decode cX1_share 98 = .ok (.aload_n 0, 1) := by decide +kernel
theorem dX1_share_99 : decode cX1_share 99 = .ok (.getfield 13, 3) := by decide +kernel
theorem dX1_share_102 : decode cX1_share 102 = .ok (.bipush 8, 2) := by decide +kernel
theorem dX1_share_104 : decode cX1_share 104 = .ok (.iload_n 1, 1) := by decide +kernel
theorem dX1_share_105 : decode cX1_share 105 = .ok (.imul, 1) := by decide +kernel
theorem dX1_share_106 : decode cX1_share 106 = .ok (.iload 4, 2) := by decide +kernel
theorem dX1_share_108 : decode cX1_share 108 = .ok (.iadd, 1) := by decide +kernel
theorem dX1_share_109 : decode cX1_share 109 = .ok (.aload_n 0, 1) := by decide +kernel
theorem dX1_share_110 : decode cX1_share 110 = .ok (.getfield 13, 3) := by decide +kernel
theorem dX1_share_113 : decode cX1_share 113 = .ok (.bipush 8, 2) := by decide +kernel
theorem dX1_share_115 : decode cX1_share 115 = .ok (.iload_n 1, 1) := by decide +kernel
theorem dX1_share_116 : decode cX1_share 116 = .ok (.imul, 1) := by decide +kernel
theorem dX1_share_117 : decode cX1_share 117 = .ok (.iload 4, 2) := by decide +kernel
theorem dX1_share_119 : decode cX1_share 119 = .ok (.iadd, 1) := by decide +kernel
theorem dX1_share_120 : decode cX1_share 120 = .ok (.iaload, 1) := by decide +kernel
theorem dX1_share_121 : decode cX1_share 121 = .ok (.iload 5, 2) := by decide +kernel
theorem dX1_share_123 : decode cX1_share 123 = .ok (.invokestatic 52, 3) := by decide +kernel
theorem dX1_share_126 : decode cX1_share 126 = .ok (.iastore, 1) := by decide +kernel
theorem dX1_share_127 : decode cX1_share 127 = .ok (.iinc 4 1, 3) := by decide +kernel
theorem dX1_share_130 : decode cX1_share 130 = .ok (.goto (-68), 3) := by decide +kernel
theorem dX1_share_133 : decode cX1_share 133 = .ok (.aload_n 0, 1) := by decide +kernel
theorem dX1_share_134 : decode cX1_share 134 = .ok (.iconst 2, 1) := by decide +kernel
theorem dX1_share_135 : decode cX1_share 135 = .ok (.iconst 0, 1) := by decide +kernel
theorem dX1_share_136 : decode cX1_share 136 = .ok (.invokevirtual 48, 3) := by decide +kernel
theorem dX1_share_139 : decode cX1_share 139 = .ok (.aload_n 0, 1) := by decide +kernel
theorem dX1_share_140 : decode cX1_share 140 = .ok (.getfield 9, 3) := by decide +kernel
theorem dX1_share_143 : decode cX1_share 143 = .ok (.iload_n 1, 1) := by decide +kernel
theorem dX1_share_144 : decode cX1_share 144 = .ok (.iaload, 1) := by decide +kernel
theorem dX1_share_145 : decode cX1_share 145 = .ok (.iadd, 1) := by decide +kernel
theorem dX1_share_146 : decode cX1_share 146 = .ok (.ireturn, 1) := by decide +kernel
set_option maxRecDepth 20000 in
theorem ggX1_spread_X1_isDesk : GoodIn wsX1_spread wsX1_isDesk := goodIn_r _ [7, 8, 9, 6, 10] (by decide +kernel) (by decide +kernel)
set_option maxRecDepth 20000 in
theorem gX1_spread_X1_isDesk : GoodIn wsX1_spread (va_wsS RX1 37 yX1_isDesk wsX1_isDesk) := goodIn_app (goodIn_of _ (by decide +kernel)) ggX1_spread_X1_isDesk
set_option maxRecDepth 20000 in
theorem ggX1_spread_X1_holds : GoodIn wsX1_spread wsX1_holds := goodIn_r _ [14, 15, 1, 16, 3, 17, 30, 31, 32, 33, 34, 35, 36, 37, 38] (by decide +kernel) (by decide +kernel)
set_option maxRecDepth 20000 in
theorem gX1_spread_X1_holds : GoodIn wsX1_spread (wsV RX1 41 RX1 yX1_holds wsX1_holds) := goodIn_app (goodIn_of _ (by decide +kernel)) ggX1_spread_X1_holds
set_option maxRecDepth 20000 in
theorem ggX1_spread_X1_ends : GoodIn wsX1_spread wsX1_ends := goodIn_r _ [21, 3, 22, 30, 31, 32, 33, 34, 35, 36, 37, 38] (by decide +kernel) (by decide +kernel)
set_option maxRecDepth 20000 in
theorem gX1_spread_X1_ends : GoodIn wsX1_spread (wsV RX1 48 RX1 yX1_ends wsX1_ends) := goodIn_app (goodIn_of _ (by decide +kernel)) ggX1_spread_X1_ends
set_option maxRecDepth 20000 in
theorem ggX1_spread_X1_isPlace : GoodIn wsX1_spread wsX1_isPlace := goodIn_r _ [26, 1, 8, 9, 6, 10, 30, 31, 32, 33, 34, 35, 36, 37, 38] (by decide +kernel) (by decide +kernel)
set_option maxRecDepth 20000 in
theorem gX1_spread_X1_isPlace : GoodIn wsX1_spread (wsV RX1 44 RX1 yX1_isPlace wsX1_isPlace) := goodIn_app (goodIn_of _ (by decide +kernel)) ggX1_spread_X1_isPlace
set_option maxRecDepth 20000 in
theorem ggX1_spread_X1_quotient : GoodIn wsX1_spread wsX1_quotient := goodIn_r _ [29] (by decide +kernel) (by decide +kernel)
set_option maxRecDepth 20000 in
theorem gX1_spread_X1_quotient : GoodIn wsX1_spread (va_wsS RX1 52 yX1_quotient wsX1_quotient) := goodIn_app (goodIn_of _ (by decide +kernel)) ggX1_spread_X1_quotient
theorem dX1_spread_0 : decode cX1_spread 0 = .ok (.iload_n 1, 1) := by decide +kernel
theorem dX1_spread_1 : decode cX1_spread 1 = .ok (.invokestatic 37, 3) := by decide +kernel
theorem dX1_spread_4 : decode cX1_spread 4 = .ok (.ifCond .eq 10, 3) := by decide +kernel
theorem dX1_spread_7 : decode cX1_spread 7 = .ok (.iload_n 2, 1) := by decide +kernel
theorem dX1_spread_8 : decode cX1_spread 8 = .ok (.invokestatic 37, 3) := by decide +kernel
theorem dX1_spread_11 : decode cX1_spread 11 = .ok (.ifCond .ne 6, 3) := by decide +kernel
theorem dX1_spread_14 : decode cX1_spread 14 = .ok (.bipush (-2), 2) := by decide +kernel
theorem dX1_spread_16 : decode cX1_spread 16 = .ok (.ireturn, 1) := by decide +kernel
theorem dX1_spread_17 : decode cX1_spread 17 = .ok (.aload_n 0, 1) := by decide +kernel
theorem dX1_spread_18 : decode cX1_spread 18 = .ok (.iload_n 1, 1) := by decide +kernel
theorem dX1_spread_19 : decode cX1_spread 19 = .ok (.invokevirtual 41, 3) := by decide +kernel
theorem dX1_spread_22 : decode cX1_spread 22 = .ok (.ifCond .ne 6, 3) := by decide +kernel
theorem dX1_spread_25 : decode cX1_spread 25 = .ok (.bipush (-11), 2) := by decide +kernel
theorem dX1_spread_27 : decode cX1_spread 27 = .ok (.ireturn, 1) := by decide +kernel
theorem dX1_spread_28 : decode cX1_spread 28 = .ok (.iconst 0, 1) := by decide +kernel
theorem dX1_spread_29 : decode cX1_spread 29 = .ok (.istore_n 3, 1) := by decide +kernel
theorem dX1_spread_30 : decode cX1_spread 30 = .ok (.iload_n 3, 1) := by decide +kernel
theorem dX1_spread_31 : decode cX1_spread 31 = .ok (.aload_n 0, 1) := by decide +kernel
theorem dX1_spread_32 : decode cX1_spread 32 = .ok (.getfield 9, 3) := by decide +kernel
theorem dX1_spread_35 : decode cX1_spread 35 = .ok (.iload_n 1, 1) := by decide +kernel
theorem dX1_spread_36 : decode cX1_spread 36 = .ok (.iaload, 1) := by decide +kernel
theorem dX1_spread_37 : decode cX1_spread 37 = .ok (.if_icmp .ge 105, 3) := by decide +kernel
theorem dX1_spread_40 : decode cX1_spread 40 = .ok (.aload_n 0, 1) := by decide +kernel
theorem dX1_spread_41 : decode cX1_spread 41 = .ok (.iload_n 2, 1) := by decide +kernel
theorem dX1_spread_42 : decode cX1_spread 42 = .ok (.invokevirtual 41, 3) := by decide +kernel
theorem dX1_spread_45 : decode cX1_spread 45 = .ok (.ifCond .ne 10, 3) := by decide +kernel
theorem dX1_spread_48 : decode cX1_spread 48 = .ok (.aload_n 0, 1) := by decide +kernel
theorem dX1_spread_49 : decode cX1_spread 49 = .ok (.iconst 1, 1) := by decide +kernel
theorem dX1_spread_50 : decode cX1_spread 50 = .ok (.iconst 1, 1) := by decide +kernel
theorem dX1_spread_51 : decode cX1_spread 51 = .ok (.invokevirtual 48, 3) := by decide +kernel
theorem dX1_spread_54 : decode cX1_spread 54 = .ok (.ireturn, 1) := by decide +kernel
theorem dX1_spread_55 : decode cX1_spread 55 = .ok (.aload_n 0, 1) := by decide +kernel
theorem dX1_spread_56 : decode cX1_spread 56 = .ok (.iload_n 2, 1) := by decide +kernel
theorem dX1_spread_57 : decode cX1_spread 57 = .ok (.iload_n 3, 1) := by decide +kernel
theorem dX1_spread_58 : decode cX1_spread 58 = .ok (.invokevirtual 44, 3) := by decide +kernel
theorem dX1_spread_61 : decode cX1_spread 61 = .ok (.ifCond .ne 10, 3) := by decide +kernel
theorem dX1_spread_64 : decode cX1_spread 64 = .ok (.aload_n 0, 1) := by decide +kernel
theorem dX1_spread_65 : decode cX1_spread 65 = .ok (.iconst 2, 1) := by decide +kernel
theorem dX1_spread_66 : decode cX1_spread 66 = .ok (.iconst 2, 1) := by decide +kernel
theorem dX1_spread_67 : decode cX1_spread 67 = .ok (.invokevirtual 48, 3) := by decide +kernel
theorem dX1_spread_70 : decode cX1_spread 70 = .ok (.ireturn, 1) := by decide +kernel
theorem dX1_spread_71 : decode cX1_spread 71 = .ok (.aload_n 0, 1) := by decide +kernel
theorem dX1_spread_72 : decode cX1_spread 72 = .ok (.getfield 13, 3) := by decide +kernel
theorem dX1_spread_75 : decode cX1_spread 75 = .ok (.bipush 8, 2) := by decide +kernel
theorem dX1_spread_77 : decode cX1_spread 77 = .ok (.iload_n 2, 1) := by decide +kernel
theorem dX1_spread_78 : decode cX1_spread 78 = .ok (.imul, 1) := by decide +kernel
theorem dX1_spread_79 : decode cX1_spread 79 = .ok (.iload_n 3, 1) := by decide +kernel
theorem dX1_spread_80 : decode cX1_spread 80 = .ok (.iadd, 1) := by decide +kernel
theorem dX1_spread_81 : decode cX1_spread 81 = .ok (.iaload, 1) := by decide +kernel
theorem dX1_spread_82 : decode cX1_spread 82 = .ok (.istore 4, 2) := by decide +kernel
theorem dX1_spread_84 : decode cX1_spread 84 = .ok (.iload 4, 2) := by decide +kernel
theorem dX1_spread_86 : decode cX1_spread 86 = .ok (.ifCond .ne 10, 3) := by decide +kernel
theorem dX1_spread_89 : decode cX1_spread 89 = .ok (.aload_n 0, 1) := by decide +kernel
theorem dX1_spread_90 : decode cX1_spread 90 = .ok (.iconst 2, 1) := by decide +kernel
theorem dX1_spread_91 : decode cX1_spread 91 = .ok (.iconst 3, 1) := by decide +kernel
theorem dX1_spread_92 : decode cX1_spread 92 = .ok (.invokevirtual 48, 3) := by decide +kernel
theorem dX1_spread_95 : decode cX1_spread 95 = .ok (.ireturn, 1) := by decide +kernel
theorem dX1_spread_96 : decode cX1_spread 96 = .ok (.aload_n 0, 1) := by decide +kernel
theorem dX1_spread_97 : decode cX1_spread 97 = .ok (.getfield 13, 3) := by decide +kernel
theorem dX1_spread_100 : decode cX1_spread 100 = .ok (.bipush 8, 2) := by decide +kernel
theorem dX1_spread_102 : decode cX1_spread 102 = .ok (.iload_n 2, 1) := by decide +kernel
theorem dX1_spread_103 : decode cX1_spread 103 = .ok (.imul, 1) := by decide +kernel
theorem dX1_spread_104 : decode cX1_spread 104 = .ok (.iload_n 3, 1) := by decide +kernel
theorem dX1_spread_105 : decode cX1_spread 105 = .ok (.iadd, 1) := by decide +kernel
theorem dX1_spread_106 : decode cX1_spread 106 = .ok (.iload 4, 2) := by decide +kernel
theorem dX1_spread_108 : decode cX1_spread 108 = .ok (.aload_n 0, 1) := by decide +kernel
theorem dX1_spread_109 : decode cX1_spread 109 = .ok (.getfield 13, 3) := by decide +kernel
theorem dX1_spread_112 : decode cX1_spread 112 = .ok (.bipush 8, 2) := by decide +kernel
theorem dX1_spread_114 : decode cX1_spread 114 = .ok (.iload_n 1, 1) := by decide +kernel
theorem dX1_spread_115 : decode cX1_spread 115 = .ok (.imul, 1) := by decide +kernel
theorem dX1_spread_116 : decode cX1_spread 116 = .ok (.iload_n 3, 1) := by decide +kernel
theorem dX1_spread_117 : decode cX1_spread 117 = .ok (.iadd, 1) := by decide +kernel
theorem dX1_spread_118 : decode cX1_spread 118 = .ok (.iaload, 1) := by decide +kernel
theorem dX1_spread_119 : decode cX1_spread 119 = .ok (.iload 4, 2) := by decide +kernel
theorem dX1_spread_121 : decode cX1_spread 121 = .ok (.invokestatic 52, 3) := by decide +kernel
theorem dX1_spread_124 : decode cX1_spread 124 = .ok (.iadd, 1) := by decide +kernel
theorem dX1_spread_125 : decode cX1_spread 125 = .ok (.iastore, 1) := by decide +kernel
theorem dX1_spread_126 : decode cX1_spread 126 = .ok (.aload_n 0, 1) := by decide +kernel
theorem dX1_spread_127 : decode cX1_spread 127 = .ok (.dup, 1) := by decide +kernel
theorem dX1_spread_128 : decode cX1_spread 128 = .ok (.getfield 27, 3) := by decide +kernel
theorem dX1_spread_131 : decode cX1_spread 131 = .ok (.iconst 1, 1) := by decide +kernel
theorem dX1_spread_132 : decode cX1_spread 132 = .ok (.isub, 1) := by decide +kernel
theorem dX1_spread_133 : decode cX1_spread 133 = .ok (.putfield 27, 3) := by decide +kernel
theorem dX1_spread_136 : decode cX1_spread 136 = .ok (.iinc 3 1, 3) := by decide +kernel
theorem dX1_spread_139 : decode cX1_spread 139 = .ok (.goto (-109), 3) := by decide +kernel
theorem dX1_spread_142 : decode cX1_spread 142 = .ok (.aload_n 0, 1) := by decide +kernel
theorem dX1_spread_143 : decode cX1_spread 143 = .ok (.iconst 1, 1) := by decide +kernel
theorem dX1_spread_144 : decode cX1_spread 144 = .ok (.iconst 0, 1) := by decide +kernel
theorem dX1_spread_145 : decode cX1_spread 145 = .ok (.invokevirtual 48, 3) := by decide +kernel
theorem dX1_spread_148 : decode cX1_spread 148 = .ok (.aload_n 0, 1) := by decide +kernel
theorem dX1_spread_149 : decode cX1_spread 149 = .ok (.getfield 9, 3) := by decide +kernel
theorem dX1_spread_152 : decode cX1_spread 152 = .ok (.iload_n 1, 1) := by decide +kernel
theorem dX1_spread_153 : decode cX1_spread 153 = .ok (.iaload, 1) := by decide +kernel
theorem dX1_spread_154 : decode cX1_spread 154 = .ok (.iadd, 1) := by decide +kernel
theorem dX1_spread_155 : decode cX1_spread 155 = .ok (.ireturn, 1) := by decide +kernel
set_option maxRecDepth 20000 in
theorem ggX1_climb_X1_isDesk : GoodIn wsX1_climb wsX1_isDesk := goodIn_r _ [6, 7, 8, 5, 9] (by decide +kernel) (by decide +kernel)
set_option maxRecDepth 20000 in
theorem gX1_climb_X1_isDesk : GoodIn wsX1_climb (va_wsS RX1 37 yX1_isDesk wsX1_isDesk) := goodIn_app (goodIn_of _ (by decide +kernel)) ggX1_climb_X1_isDesk
set_option maxRecDepth 20000 in
theorem ggX1_climb_X1_in : GoodIn wsX1_climb wsX1_in := goodIn_r _ [9] (by decide +kernel) (by decide +kernel)
set_option maxRecDepth 20000 in
theorem gX1_climb_X1_in : GoodIn wsX1_climb (va_wsS RX1 16 yX1_in wsX1_in) := goodIn_app (goodIn_of _ (by decide +kernel)) ggX1_climb_X1_in
set_option maxRecDepth 20000 in
theorem ggX1_climb_X1_holds : GoodIn wsX1_climb wsX1_holds := goodIn_r _ [13, 14, 15, 16, 17, 18, 28, 29, 30, 31, 32, 33, 34, 35, 36] (by decide +kernel) (by decide +kernel)
set_option maxRecDepth 20000 in
theorem gX1_climb_X1_holds : GoodIn wsX1_climb (wsV RX1 41 RX1 yX1_holds wsX1_holds) := goodIn_app (goodIn_of _ (by decide +kernel)) ggX1_climb_X1_holds
set_option maxRecDepth 20000 in
theorem ggX1_climb_X1_ends : GoodIn wsX1_climb wsX1_ends := goodIn_r _ [22, 17, 23, 28, 29, 30, 31, 32, 33, 34, 35, 36] (by decide +kernel) (by decide +kernel)
set_option maxRecDepth 20000 in
theorem gX1_climb_X1_ends : GoodIn wsX1_climb (wsV RX1 48 RX1 yX1_ends wsX1_ends) := goodIn_app (goodIn_of _ (by decide +kernel)) ggX1_climb_X1_ends
set_option maxRecDepth 20000 in
theorem ggX1_climb_X1_isPlace : GoodIn wsX1_climb wsX1_isPlace := goodIn_r _ [27, 15, 7, 8, 5, 9, 28, 29, 30, 31, 32, 33, 34, 35, 36] (by decide +kernel) (by decide +kernel)
set_option maxRecDepth 20000 in
theorem gX1_climb_X1_isPlace : GoodIn wsX1_climb (wsV RX1 44 RX1 yX1_isPlace wsX1_isPlace) := goodIn_app (goodIn_of _ (by decide +kernel)) ggX1_climb_X1_isPlace
theorem dX1_climb_0 : decode cX1_climb 0 = .ok (.iload_n 1, 1) := by decide +kernel
theorem dX1_climb_1 : decode cX1_climb 1 = .ok (.invokestatic 37, 3) := by decide +kernel
theorem dX1_climb_4 : decode cX1_climb 4 = .ok (.ifCond .eq 13, 3) := by decide +kernel
theorem dX1_climb_7 : decode cX1_climb 7 = .ok (.iload_n 2, 1) := by decide +kernel
theorem dX1_climb_8 : decode cX1_climb 8 = .ok (.iconst 1, 1) := by decide +kernel
theorem dX1_climb_9 : decode cX1_climb 9 = .ok (.bipush 12, 2) := by decide +kernel
theorem dX1_climb_11 : decode cX1_climb 11 = .ok (.invokestatic 16, 3) := by decide +kernel
theorem dX1_climb_14 : decode cX1_climb 14 = .ok (.ifCond .ne 6, 3) := by decide +kernel
theorem dX1_climb_17 : decode cX1_climb 17 = .ok (.bipush (-2), 2) := by decide +kernel
theorem dX1_climb_19 : decode cX1_climb 19 = .ok (.ireturn, 1) := by decide +kernel
theorem dX1_climb_20 : decode cX1_climb 20 = .ok (.iconst 0, 1) := by decide +kernel
theorem dX1_climb_21 : decode cX1_climb 21 = .ok (.istore_n 3, 1) := by decide +kernel
theorem dX1_climb_22 : decode cX1_climb 22 = .ok (.iload_n 3, 1) := by decide +kernel
theorem dX1_climb_23 : decode cX1_climb 23 = .ok (.iload_n 2, 1) := by decide +kernel
theorem dX1_climb_24 : decode cX1_climb 24 = .ok (.if_icmp .ge 57, 3) := by decide +kernel
theorem dX1_climb_27 : decode cX1_climb 27 = .ok (.aload_n 0, 1) := by decide +kernel
theorem dX1_climb_28 : decode cX1_climb 28 = .ok (.iload_n 1, 1) := by decide +kernel
theorem dX1_climb_29 : decode cX1_climb 29 = .ok (.invokevirtual 41, 3) := by decide +kernel
theorem dX1_climb_32 : decode cX1_climb 32 = .ok (.ifCond .ne 10, 3) := by decide +kernel
theorem dX1_climb_35 : decode cX1_climb 35 = .ok (.aload_n 0, 1) := by decide +kernel
theorem dX1_climb_36 : decode cX1_climb 36 = .ok (.iload_n 3, 1) := by decide +kernel
theorem dX1_climb_37 : decode cX1_climb 37 = .ok (.iconst 1, 1) := by decide +kernel
theorem dX1_climb_38 : decode cX1_climb 38 = .ok (.invokevirtual 48, 3) := by decide +kernel
theorem dX1_climb_41 : decode cX1_climb 41 = .ok (.ireturn, 1) := by decide +kernel
theorem dX1_climb_42 : decode cX1_climb 42 = .ok (.aload_n 0, 1) := by decide +kernel
theorem dX1_climb_43 : decode cX1_climb 43 = .ok (.iload_n 1, 1) := by decide +kernel
theorem dX1_climb_44 : decode cX1_climb 44 = .ok (.iload_n 3, 1) := by decide +kernel
theorem dX1_climb_45 : decode cX1_climb 45 = .ok (.invokevirtual 44, 3) := by decide +kernel
theorem dX1_climb_48 : decode cX1_climb 48 = .ok (.ifCond .ne 12, 3) := by decide +kernel
theorem dX1_climb_51 : decode cX1_climb 51 = .ok (.aload_n 0, 1) := by decide +kernel
theorem dX1_climb_52 : decode cX1_climb 52 = .ok (.iload_n 3, 1) := by decide +kernel
theorem dX1_climb_53 : decode cX1_climb 53 = .ok (.iconst 1, 1) := by decide +kernel
theorem dX1_climb_54 : decode cX1_climb 54 = .ok (.iadd, 1) := by decide +kernel
theorem dX1_climb_55 : decode cX1_climb 55 = .ok (.iconst 2, 1) := by decide +kernel
theorem dX1_climb_56 : decode cX1_climb 56 = .ok (.invokevirtual 48, 3) := by decide +kernel
theorem dX1_climb_59 : decode cX1_climb 59 = .ok (.ireturn, 1) := by decide +kernel
theorem dX1_climb_60 : decode cX1_climb 60 = .ok (.aload_n 0, 1) := by decide +kernel
theorem dX1_climb_61 : decode cX1_climb 61 = .ok (.getfield 13, 3) := by decide +kernel
theorem dX1_climb_64 : decode cX1_climb 64 = .ok (.bipush 8, 2) := by decide +kernel
theorem dX1_climb_66 : decode cX1_climb 66 = .ok (.iload_n 1, 1) := by decide +kernel
theorem dX1_climb_67 : decode cX1_climb 67 = .ok (.imul, 1) := by decide +kernel
theorem dX1_climb_68 : decode cX1_climb 68 = .ok (.iload_n 3, 1) := by decide +kernel
theorem dX1_climb_69 : decode cX1_climb 69 = .ok (.iadd, 1) := by decide +kernel
theorem dX1_climb_70 : decode cX1_climb 70 = .ok (.dup2, 1) := by decide +kernel
theorem dX1_climb_71 : decode cX1_climb 71 = .ok (.iaload, 1) := by decide +kernel
theorem dX1_climb_72 : decode cX1_climb 72 = .ok (.iload_n 3, 1) := by decide +kernel
theorem dX1_climb_73 : decode cX1_climb 73 = .ok (.iadd, 1) := by decide +kernel
theorem dX1_climb_74 : decode cX1_climb 74 = .ok (.iastore, 1) := by decide +kernel
theorem dX1_climb_75 : decode cX1_climb 75 = .ok (.iinc 3 1, 3) := by decide +kernel
theorem dX1_climb_78 : decode cX1_climb 78 = .ok (.goto (-56), 3) := by decide +kernel
theorem dX1_climb_81 : decode cX1_climb 81 = .ok (.aload_n 0, 1) := by decide +kernel
theorem dX1_climb_82 : decode cX1_climb 82 = .ok (.dup, 1) := by decide +kernel
theorem dX1_climb_83 : decode cX1_climb 83 = .ok (.getfield 55, 3) := by decide +kernel
theorem dX1_climb_86 : decode cX1_climb 86 = .ok (.aload_n 0, 1) := by decide +kernel
theorem dX1_climb_87 : decode cX1_climb 87 = .ok (.getfield 13, 3) := by decide +kernel
theorem dX1_climb_90 : decode cX1_climb 90 = .ok (.bipush 8, 2) := by decide +kernel
theorem dX1_climb_92 : decode cX1_climb 92 = .ok (.iload_n 1, 1) := by decide +kernel
theorem dX1_climb_93 : decode cX1_climb 93 = .ok (.imul, 1) := by decide +kernel
theorem dX1_climb_94 : decode cX1_climb 94 = .ok (.iaload, 1) := by decide +kernel
theorem dX1_climb_95 : decode cX1_climb 95 = .ok (.i2l, 1) := by decide +kernel
theorem dX1_climb_96 : decode cX1_climb 96 = .ok (.ladd, 1) := by decide +kernel
theorem dX1_climb_97 : decode cX1_climb 97 = .ok (.putfield 55, 3) := by decide +kernel
theorem dX1_climb_100 : decode cX1_climb 100 = .ok (.aload_n 0, 1) := by decide +kernel
theorem dX1_climb_101 : decode cX1_climb 101 = .ok (.iload_n 2, 1) := by decide +kernel
theorem dX1_climb_102 : decode cX1_climb 102 = .ok (.iconst 0, 1) := by decide +kernel
theorem dX1_climb_103 : decode cX1_climb 103 = .ok (.invokevirtual 48, 3) := by decide +kernel
theorem dX1_climb_106 : decode cX1_climb 106 = .ok (.iload_n 2, 1) := by decide +kernel
theorem dX1_climb_107 : decode cX1_climb 107 = .ok (.iadd, 1) := by decide +kernel
theorem dX1_climb_108 : decode cX1_climb 108 = .ok (.ireturn, 1) := by decide +kernel
set_option maxRecDepth 20000 in
theorem ggX1_find_X1_holds : GoodIn wsX1_find wsX1_holds := goodIn_r _ [8, 9, 1, 10, 3, 11, 12, 13, 14, 15, 16, 17, 18, 19, 20] (by decide +kernel) (by decide +kernel)
set_option maxRecDepth 20000 in
theorem gX1_find_X1_holds : GoodIn wsX1_find (wsV RX1 41 RX1 yX1_holds wsX1_holds) := goodIn_app (goodIn_of _ (by decide +kernel)) ggX1_find_X1_holds
theorem dX1_find_0 : decode cX1_find 0 = .ok (.iconst (-1), 1) := by decide +kernel
theorem dX1_find_1 : decode cX1_find 1 = .ok (.istore_n 2, 1) := by decide +kernel
theorem dX1_find_2 : decode cX1_find 2 = .ok (.iconst 0, 1) := by decide +kernel
theorem dX1_find_3 : decode cX1_find 3 = .ok (.istore_n 3, 1) := by decide +kernel
theorem dX1_find_4 : decode cX1_find 4 = .ok (.iload_n 3, 1) := by decide +kernel
theorem dX1_find_5 : decode cX1_find 5 = .ok (.bipush 8, 2) := by decide +kernel
theorem dX1_find_7 : decode cX1_find 7 = .ok (.if_icmp .ge 90, 3) := by decide +kernel
theorem dX1_find_10 : decode cX1_find 10 = .ok (.iload_n 2, 1) := by decide +kernel
theorem dX1_find_11 : decode cX1_find 11 = .ok (.iconst (-1), 1) := by decide +kernel
theorem dX1_find_12 : decode cX1_find 12 = .ok (.if_icmp .ne 85, 3) := by decide +kernel
theorem dX1_find_15 : decode cX1_find 15 = .ok (.aload_n 0, 1) := by decide +kernel
theorem dX1_find_16 : decode cX1_find 16 = .ok (.getfield 9, 3) := by decide +kernel
theorem dX1_find_19 : decode cX1_find 19 = .ok (.iload_n 3, 1) := by decide +kernel
theorem dX1_find_20 : decode cX1_find 20 = .ok (.iaload, 1) := by decide +kernel
theorem dX1_find_21 : decode cX1_find 21 = .ok (.ifCond .le 70, 3) := by decide +kernel
theorem dX1_find_24 : decode cX1_find 24 = .ok (.aload_n 0, 1) := by decide +kernel
theorem dX1_find_25 : decode cX1_find 25 = .ok (.iload_n 3, 1) := by decide +kernel
theorem dX1_find_26 : decode cX1_find 26 = .ok (.invokevirtual 41, 3) := by decide +kernel
theorem dX1_find_29 : decode cX1_find 29 = .ok (.ifCond .eq 62, 3) := by decide +kernel
theorem dX1_find_32 : decode cX1_find 32 = .ok (.aload_n 0, 1) := by decide +kernel
theorem dX1_find_33 : decode cX1_find 33 = .ok (.getfield 9, 3) := by decide +kernel
theorem dX1_find_36 : decode cX1_find 36 = .ok (.iload_n 3, 1) := by decide +kernel
theorem dX1_find_37 : decode cX1_find 37 = .ok (.iaload, 1) := by decide +kernel
theorem dX1_find_38 : decode cX1_find 38 = .ok (.iconst 1, 1) := by decide +kernel
theorem dX1_find_39 : decode cX1_find 39 = .ok (.isub, 1) := by decide +kernel
theorem dX1_find_40 : decode cX1_find 40 = .ok (.istore 4, 2) := by decide +kernel
theorem dX1_find_42 : decode cX1_find 42 = .ok (.iload 4, 2) := by decide +kernel
theorem dX1_find_44 : decode cX1_find 44 = .ok (.ifCond .lt 37, 3) := by decide +kernel
theorem dX1_find_47 : decode cX1_find 47 = .ok (.aload_n 0, 1) := by decide +kernel
theorem dX1_find_48 : decode cX1_find 48 = .ok (.getfield 13, 3) := by decide +kernel
theorem dX1_find_51 : decode cX1_find 51 = .ok (.bipush 8, 2) := by decide +kernel
theorem dX1_find_53 : decode cX1_find 53 = .ok (.iload_n 3, 1) := by decide +kernel
theorem dX1_find_54 : decode cX1_find 54 = .ok (.imul, 1) := by decide +kernel
theorem dX1_find_55 : decode cX1_find 55 = .ok (.iload 4, 2) := by decide +kernel
theorem dX1_find_57 : decode cX1_find 57 = .ok (.iadd, 1) := by decide +kernel
theorem dX1_find_58 : decode cX1_find 58 = .ok (.iaload, 1) := by decide +kernel
theorem dX1_find_59 : decode cX1_find 59 = .ok (.iload_n 1, 1) := by decide +kernel
theorem dX1_find_60 : decode cX1_find 60 = .ok (.if_icmp .ne 13, 3) := by decide +kernel
theorem dX1_find_63 : decode cX1_find 63 = .ok (.bipush 8, 2) := by decide +kernel
theorem dX1_find_65 : decode cX1_find 65 = .ok (.iload_n 3, 1) := by decide +kernel
theorem dX1_find_66 : decode cX1_find 66 = .ok (.imul, 1) := by decide +kernel
theorem dX1_find_67 : decode cX1_find 67 = .ok (.iload 4, 2) := by decide +kernel
theorem dX1_find_69 : decode cX1_find 69 = .ok (.iadd, 1) := by decide +kernel
theorem dX1_find_70 : decode cX1_find 70 = .ok (.goto 4, 3) := by decide +kernel
theorem dX1_find_73 : decode cX1_find 73 = .ok (.iload_n 2, 1) := by decide +kernel
theorem dX1_find_74 : decode cX1_find 74 = .ok (.istore_n 2, 1) := by decide +kernel
theorem dX1_find_75 : decode cX1_find 75 = .ok (.iinc 4 (-1), 3) := by decide +kernel
theorem dX1_find_78 : decode cX1_find 78 = .ok (.goto (-36), 3) := by decide +kernel
theorem dX1_find_81 : decode cX1_find 81 = .ok (.aload_n 0, 1) := by decide +kernel
theorem dX1_find_82 : decode cX1_find 82 = .ok (.dup, 1) := by decide +kernel
theorem dX1_find_83 : decode cX1_find 83 = .ok (.getfield 27, 3) := by decide +kernel
theorem dX1_find_86 : decode cX1_find 86 = .ok (.iconst 1, 1) := by decide +kernel
theorem dX1_find_87 : decode cX1_find 87 = .ok (.isub, 1) := by decide +kernel
theorem dX1_find_88 : decode cX1_find 88 = .ok (.putfield 27, 3) := by decide +kernel
theorem dX1_find_91 : decode cX1_find 91 = .ok (.iinc 3 1, 3) := by decide +kernel
theorem dX1_find_94 : decode cX1_find 94 = .ok (.goto (-90), 3) := by decide +kernel
theorem dX1_find_97 : decode cX1_find 97 = .ok (.iload_n 2, 1) := by decide +kernel
theorem dX1_find_98 : decode cX1_find 98 = .ok (.ireturn, 1) := by decide +kernel
set_option maxRecDepth 20000 in
theorem ggX1_rounds_X1_in : GoodIn wsX1_rounds wsX1_in := goodIn_r _ [7] (by decide +kernel) (by decide +kernel)
set_option maxRecDepth 20000 in
theorem gX1_rounds_X1_in : GoodIn wsX1_rounds (va_wsS RX1 16 yX1_in wsX1_in) := goodIn_app (goodIn_of _ (by decide +kernel)) ggX1_rounds_X1_in
set_option maxRecDepth 20000 in
theorem ggX1_rounds_X1_holds : GoodIn wsX1_rounds wsX1_holds := goodIn_r _ [11, 12, 13, 14, 3, 15, 16, 17, 18, 19, 20, 21, 22, 23, 24] (by decide +kernel) (by decide +kernel)
set_option maxRecDepth 20000 in
theorem gX1_rounds_X1_holds : GoodIn wsX1_rounds (wsV RX1 41 RX1 yX1_holds wsX1_holds) := goodIn_app (goodIn_of _ (by decide +kernel)) ggX1_rounds_X1_holds
theorem dX1_rounds_0 : decode cX1_rounds 0 = .ok (.iload_n 1, 1) := by decide +kernel
theorem dX1_rounds_1 : decode cX1_rounds 1 = .ok (.iconst 1, 1) := by decide +kernel
theorem dX1_rounds_2 : decode cX1_rounds 2 = .ok (.bipush 20, 2) := by decide +kernel
theorem dX1_rounds_4 : decode cX1_rounds 4 = .ok (.invokestatic 16, 3) := by decide +kernel
theorem dX1_rounds_7 : decode cX1_rounds 7 = .ok (.ifCond .ne 6, 3) := by decide +kernel
theorem dX1_rounds_10 : decode cX1_rounds 10 = .ok (.bipush (-2), 2) := by decide +kernel
theorem dX1_rounds_12 : decode cX1_rounds 12 = .ok (.ireturn, 1) := by decide +kernel
theorem dX1_rounds_13 : decode cX1_rounds 13 = .ok (.iconst 0, 1) := by decide +kernel
theorem dX1_rounds_14 : decode cX1_rounds 14 = .ok (.istore_n 3, 1) := by decide +kernel
theorem dX1_rounds_15 : decode cX1_rounds 15 = .ok (.iconst 1, 1) := by decide +kernel
theorem dX1_rounds_16 : decode cX1_rounds 16 = .ok (.istore 4, 2) := by decide +kernel
theorem dX1_rounds_18 : decode cX1_rounds 18 = .ok (.iconst 0, 1) := by decide +kernel
theorem dX1_rounds_19 : decode cX1_rounds 19 = .ok (.istore 5, 2) := by decide +kernel
theorem dX1_rounds_21 : decode cX1_rounds 21 = .ok (.iload 5, 2) := by decide +kernel
theorem dX1_rounds_23 : decode cX1_rounds 23 = .ok (.iload_n 1, 1) := by decide +kernel
theorem dX1_rounds_24 : decode cX1_rounds 24 = .ok (.if_icmp .ge 128, 3) := by decide +kernel
theorem dX1_rounds_27 : decode cX1_rounds 27 = .ok (.iload 4, 2) := by decide +kernel
theorem dX1_rounds_29 : decode cX1_rounds 29 = .ok (.ifCond .eq 123, 3) := by decide +kernel
theorem dX1_rounds_32 : decode cX1_rounds 32 = .ok (.aload_n 0, 1) := by decide +kernel
theorem dX1_rounds_33 : decode cX1_rounds 33 = .ok (.aload_n 0, 1) := by decide +kernel
theorem dX1_rounds_34 : decode cX1_rounds 34 = .ok (.getfield 58, 3) := by decide +kernel
theorem dX1_rounds_37 : decode cX1_rounds 37 = .ok (.iconst 1, 1) := by decide +kernel
theorem dX1_rounds_38 : decode cX1_rounds 38 = .ok (.iadd, 1) := by decide +kernel
theorem dX1_rounds_39 : decode cX1_rounds 39 = .ok (.bipush 8, 2) := by decide +kernel
theorem dX1_rounds_41 : decode cX1_rounds 41 = .ok (.irem, 1) := by decide +kernel
theorem dX1_rounds_42 : decode cX1_rounds 42 = .ok (.putfield 58, 3) := by decide +kernel
theorem dX1_rounds_45 : decode cX1_rounds 45 = .ok (.aload_n 0, 1) := by decide +kernel
theorem dX1_rounds_46 : decode cX1_rounds 46 = .ok (.aload_n 0, 1) := by decide +kernel
theorem dX1_rounds_47 : decode cX1_rounds 47 = .ok (.getfield 58, 3) := by decide +kernel
theorem dX1_rounds_50 : decode cX1_rounds 50 = .ok (.invokevirtual 41, 3) := by decide +kernel
theorem dX1_rounds_53 : decode cX1_rounds 53 = .ok (.ifCond .eq 86, 3) := by decide +kernel
theorem dX1_rounds_56 : decode cX1_rounds 56 = .ok (.bipush 8, 2) := by decide +kernel
theorem dX1_rounds_58 : decode cX1_rounds 58 = .ok (.aload_n 0, 1) := by decide +kernel
theorem dX1_rounds_59 : decode cX1_rounds 59 = .ok (.getfield 58, 3) := by decide +kernel
theorem dX1_rounds_62 : decode cX1_rounds 62 = .ok (.imul, 1) := by decide +kernel
theorem dX1_rounds_63 : decode cX1_rounds 63 = .ok (.istore 6, 2) := by decide +kernel
theorem dX1_rounds_65 : decode cX1_rounds 65 = .ok (.aload_n 0, 1) := by decide +kernel
theorem dX1_rounds_66 : decode cX1_rounds 66 = .ok (.getfield 13, 3) := by decide +kernel
theorem dX1_rounds_69 : decode cX1_rounds 69 = .ok (.iload 6, 2) := by decide +kernel
theorem dX1_rounds_71 : decode cX1_rounds 71 = .ok (.dup2, 1) := by decide +kernel
theorem dX1_rounds_72 : decode cX1_rounds 72 = .ok (.iaload, 1) := by decide +kernel
theorem dX1_rounds_73 : decode cX1_rounds 73 = .ok (.iconst 1, 1) := by decide +kernel
theorem dX1_rounds_74 : decode cX1_rounds 74 = .ok (.iadd, 1) := by decide +kernel
theorem dX1_rounds_75 : decode cX1_rounds 75 = .ok (.iastore, 1) := by decide +kernel
theorem dX1_rounds_76 : decode cX1_rounds 76 = .ok (.iinc 3 1, 3) := by decide +kernel
theorem dX1_rounds_79 : decode cX1_rounds 79 = .ok (.aload_n 0, 1) := by decide +kernel
theorem dX1_rounds_80 : decode cX1_rounds 80 = .ok (.dup, 1) := by decide +kernel
theorem dX1_rounds_81 : decode cX1_rounds 81 = .ok (.getfield 27, 3) := by decide +kernel
theorem dX1_rounds_84 : decode cX1_rounds 84 = .ok (.iconst 1, 1) := by decide +kernel
theorem dX1_rounds_85 : decode cX1_rounds 85 = .ok (.isub, 1) := by decide +kernel
theorem dX1_rounds_86 : decode cX1_rounds 86 = .ok (.putfield 27, 3) := by decide +kernel
theorem dX1_rounds_89 : decode cX1_rounds 89 = .ok (.aload_n 0, 1) := by decide +kernel
theorem dX1_rounds_90 : decode cX1_rounds 90 = .ok (.getfield 13, 3) := by decide +kernel
theorem dX1_rounds_93 : decode cX1_rounds 93 = .ok (.iload 6, 2) := by decide +kernel
theorem dX1_rounds_95 : decode cX1_rounds 95 = .ok (.iaload, 1) := by decide +kernel
theorem dX1_rounds_96 : decode cX1_rounds 96 = .ok (.ifCond .eq 7, 3) := by decide +kernel
theorem dX1_rounds_99 : decode cX1_rounds 99 = .ok (.iconst 1, 1) := by decide +kernel
theorem dX1_rounds_100 : decode cX1_rounds 100 = .ok (.goto 4, 3) := by decide +kernel
theorem dX1_rounds_103 : decode cX1_rounds 103 = .ok (.iconst 0, 1) := by decide +kernel
theorem dX1_rounds_104 : decode cX1_rounds 104 = .ok (.istore 4, 2) := by decide +kernel
theorem dX1_rounds_106 : decode cX1_rounds 106 = .ok (.iload 4, 2) := by decide +kernel
theorem dX1_rounds_108 : decode cX1_rounds 108 = .ok (.ifCond .eq 28, 3) := by decide +kernel
theorem dX1_rounds_111 : decode cX1_rounds 111 = .ok (.aload_n 0, 1) := by decide +kernel
theorem dX1_rounds_112 : decode cX1_rounds 112 = .ok (.getfield 13, 3) := by decide +kernel
theorem dX1_rounds_115 : decode cX1_rounds 115 = .ok (.iload 6, 2) := by decide +kernel
theorem dX1_rounds_117 : decode cX1_rounds 117 = .ok (.iaload, 1) := by decide +kernel
theorem dX1_rounds_118 : decode cX1_rounds 118 = .ok (.iconst 2, 1) := by decide +kernel
theorem dX1_rounds_119 : decode cX1_rounds 119 = .ok (.irem, 1) := by decide +kernel
theorem dX1_rounds_120 : decode cX1_rounds 120 = .ok (.ifCond .ne 16, 3) := by decide +kernel
theorem dX1_rounds_123 : decode cX1_rounds 123 = .ok (.aload_n 0, 1) := by decide +kernel
theorem dX1_rounds_124 : decode cX1_rounds 124 = .ok (.aload_n 0, 1) := by decide +kernel
theorem dX1_rounds_125 : decode cX1_rounds 125 = .ok (.getfield 58, 3) := by decide +kernel
theorem dX1_rounds_128 : decode cX1_rounds 128 = .ok (.iconst 1, 1) := by decide +kernel
theorem dX1_rounds_129 : decode cX1_rounds 129 = .ok (.iadd, 1) := by decide +kernel
theorem dX1_rounds_130 : decode cX1_rounds 130 = .ok (.bipush 8, 2) := by decide +kernel
theorem dX1_rounds_132 : decode cX1_rounds 132 = .ok (.irem, 1) := by decide +kernel
theorem dX1_rounds_133 : decode cX1_rounds 133 = .ok (.putfield 58, 3) := by decide +kernel
theorem dX1_rounds_136 : decode cX1_rounds 136 = .ok (.goto 10, 3) := by decide +kernel
theorem dX1_rounds_139 : decode cX1_rounds 139 = .ok (.iload_n 2, 1) := by decide +kernel
theorem dX1_rounds_140 : decode cX1_rounds 140 = .ok (.ifCond .ne 6, 3) := by decide +kernel
theorem dX1_rounds_143 : decode cX1_rounds 143 = .ok (.bipush (-11), 2) := by decide +kernel
theorem dX1_rounds_145 : decode cX1_rounds 145 = .ok (.ireturn, 1) := by decide +kernel
theorem dX1_rounds_146 : decode cX1_rounds 146 = .ok (.iinc 5 1, 3) := by decide +kernel
theorem dX1_rounds_149 : decode cX1_rounds 149 = .ok (.goto (-128), 3) := by decide +kernel
theorem dX1_rounds_152 : decode cX1_rounds 152 = .ok (.iload_n 3, 1) := by decide +kernel
theorem dX1_rounds_153 : decode cX1_rounds 153 = .ok (.ireturn, 1) := by decide +kernel
set_option maxRecDepth 20000 in
theorem ggX1_bring_X1_isDesk : GoodIn wsX1_bring wsX1_isDesk := goodIn_r _ [7, 8, 9, 6, 10] (by decide +kernel) (by decide +kernel)
set_option maxRecDepth 20000 in
theorem gX1_bring_X1_isDesk : GoodIn wsX1_bring (va_wsS RX1 37 yX1_isDesk wsX1_isDesk) := goodIn_app (goodIn_of _ (by decide +kernel)) ggX1_bring_X1_isDesk
set_option maxRecDepth 20000 in
theorem ggX1_bring_X1_holds : GoodIn wsX1_bring wsX1_holds := goodIn_r _ [14, 15, 1, 16, 17, 18, 24, 25, 26, 27, 28, 29, 30, 31, 32] (by decide +kernel) (by decide +kernel)
set_option maxRecDepth 20000 in
theorem gX1_bring_X1_holds : GoodIn wsX1_bring (wsV RX1 41 RX1 yX1_holds wsX1_holds) := goodIn_app (goodIn_of _ (by decide +kernel)) ggX1_bring_X1_holds
set_option maxRecDepth 20000 in
theorem ggX1_bring_X1_ends : GoodIn wsX1_bring wsX1_ends := goodIn_r _ [22, 17, 23, 24, 25, 26, 27, 28, 29, 30, 31, 32] (by decide +kernel) (by decide +kernel)
set_option maxRecDepth 20000 in
theorem gX1_bring_X1_ends : GoodIn wsX1_bring (wsV RX1 48 RX1 yX1_ends wsX1_ends) := goodIn_app (goodIn_of _ (by decide +kernel)) ggX1_bring_X1_ends
theorem dX1_bring_0 : decode cX1_bring 0 = .ok (.iload_n 1, 1) := by decide +kernel
theorem dX1_bring_1 : decode cX1_bring 1 = .ok (.invokestatic 37, 3) := by decide +kernel
theorem dX1_bring_4 : decode cX1_bring 4 = .ok (.ifCond .ne 6, 3) := by decide +kernel
theorem dX1_bring_7 : decode cX1_bring 7 = .ok (.bipush (-2), 2) := by decide +kernel
theorem dX1_bring_9 : decode cX1_bring 9 = .ok (.ireturn, 1) := by decide +kernel
theorem dX1_bring_10 : decode cX1_bring 10 = .ok (.aload_n 0, 1) := by decide +kernel
theorem dX1_bring_11 : decode cX1_bring 11 = .ok (.iload_n 1, 1) := by decide +kernel
theorem dX1_bring_12 : decode cX1_bring 12 = .ok (.invokevirtual 41, 3) := by decide +kernel
theorem dX1_bring_15 : decode cX1_bring 15 = .ok (.ifCond .ne 6, 3) := by decide +kernel
theorem dX1_bring_18 : decode cX1_bring 18 = .ok (.bipush (-11), 2) := by decide +kernel
theorem dX1_bring_20 : decode cX1_bring 20 = .ok (.ireturn, 1) := by decide +kernel
theorem dX1_bring_21 : decode cX1_bring 21 = .ok (.iconst 0, 1) := by decide +kernel
theorem dX1_bring_22 : decode cX1_bring 22 = .ok (.istore_n 3, 1) := by decide +kernel
theorem dX1_bring_23 : decode cX1_bring 23 = .ok (.iconst 1, 1) := by decide +kernel
theorem dX1_bring_24 : decode cX1_bring 24 = .ok (.istore 4, 2) := by decide +kernel
theorem dX1_bring_26 : decode cX1_bring 26 = .ok (.iload 4, 2) := by decide +kernel
theorem dX1_bring_28 : decode cX1_bring 28 = .ok (.ifCond .eq 83, 3) := by decide +kernel
theorem dX1_bring_31 : decode cX1_bring 31 = .ok (.iload_n 3, 1) := by decide +kernel
theorem dX1_bring_32 : decode cX1_bring 32 = .ok (.aload_n 0, 1) := by decide +kernel
theorem dX1_bring_33 : decode cX1_bring 33 = .ok (.getfield 9, 3) := by decide +kernel
theorem dX1_bring_36 : decode cX1_bring 36 = .ok (.iload_n 1, 1) := by decide +kernel
theorem dX1_bring_37 : decode cX1_bring 37 = .ok (.iaload, 1) := by decide +kernel
theorem dX1_bring_38 : decode cX1_bring 38 = .ok (.if_icmp .ge 73, 3) := by decide +kernel
theorem dX1_bring_41 : decode cX1_bring 41 = .ok (.bipush 8, 2) := by decide +kernel
theorem dX1_bring_43 : decode cX1_bring 43 = .ok (.iload_n 1, 1) := by decide +kernel
theorem dX1_bring_44 : decode cX1_bring 44 = .ok (.imul, 1) := by decide +kernel
theorem dX1_bring_45 : decode cX1_bring 45 = .ok (.iload_n 3, 1) := by decide +kernel
theorem dX1_bring_46 : decode cX1_bring 46 = .ok (.iadd, 1) := by decide +kernel
theorem dX1_bring_47 : decode cX1_bring 47 = .ok (.istore 5, 2) := by decide +kernel
theorem dX1_bring_49 : decode cX1_bring 49 = .ok (.aload_n 0, 1) := by decide +kernel
theorem dX1_bring_50 : decode cX1_bring 50 = .ok (.dup, 1) := by decide +kernel
theorem dX1_bring_51 : decode cX1_bring 51 = .ok (.getfield 55, 3) := by decide +kernel
theorem dX1_bring_54 : decode cX1_bring 54 = .ok (.aload_n 0, 1) := by decide +kernel
theorem dX1_bring_55 : decode cX1_bring 55 = .ok (.getfield 13, 3) := by decide +kernel
theorem dX1_bring_58 : decode cX1_bring 58 = .ok (.iload 5, 2) := by decide +kernel
theorem dX1_bring_60 : decode cX1_bring 60 = .ok (.iaload, 1) := by decide +kernel
theorem dX1_bring_61 : decode cX1_bring 61 = .ok (.i2l, 1) := by decide +kernel
theorem dX1_bring_62 : decode cX1_bring 62 = .ok (.ladd, 1) := by decide +kernel
theorem dX1_bring_63 : decode cX1_bring 63 = .ok (.putfield 55, 3) := by decide +kernel
theorem dX1_bring_66 : decode cX1_bring 66 = .ok (.aload_n 0, 1) := by decide +kernel
theorem dX1_bring_67 : decode cX1_bring 67 = .ok (.getfield 13, 3) := by decide +kernel
theorem dX1_bring_70 : decode cX1_bring 70 = .ok (.iload 5, 2) := by decide +kernel
theorem dX1_bring_72 : decode cX1_bring 72 = .ok (.iaload, 1) := by decide +kernel
theorem dX1_bring_73 : decode cX1_bring 73 = .ok (.ifCond .lt 7, 3) := by decide +kernel
theorem dX1_bring_76 : decode cX1_bring 76 = .ok (.iconst 1, 1) := by decide +kernel
theorem dX1_bring_77 : decode cX1_bring 77 = .ok (.goto 4, 3) := by decide +kernel
theorem dX1_bring_80 : decode cX1_bring 80 = .ok (.iconst 0, 1) := by decide +kernel
theorem dX1_bring_81 : decode cX1_bring 81 = .ok (.istore 4, 2) := by decide +kernel
theorem dX1_bring_83 : decode cX1_bring 83 = .ok (.aload_n 0, 1) := by decide +kernel
theorem dX1_bring_84 : decode cX1_bring 84 = .ok (.getfield 13, 3) := by decide +kernel
theorem dX1_bring_87 : decode cX1_bring 87 = .ok (.iload 5, 2) := by decide +kernel
theorem dX1_bring_89 : decode cX1_bring 89 = .ok (.iload_n 2, 1) := by decide +kernel
theorem dX1_bring_90 : decode cX1_bring 90 = .ok (.ifCond .eq 13, 3) := by decide +kernel
theorem dX1_bring_93 : decode cX1_bring 93 = .ok (.aload_n 0, 1) := by decide +kernel
theorem dX1_bring_94 : decode cX1_bring 94 = .ok (.getfield 13, 3) := by decide +kernel
theorem dX1_bring_97 : decode cX1_bring 97 = .ok (.iload 5, 2) := by decide +kernel
theorem dX1_bring_99 : decode cX1_bring 99 = .ok (.iaload, 1) := by decide +kernel
theorem dX1_bring_100 : decode cX1_bring 100 = .ok (.goto 4, 3) := by decide +kernel
theorem dX1_bring_103 : decode cX1_bring 103 = .ok (.iconst 0, 1) := by decide +kernel
theorem dX1_bring_104 : decode cX1_bring 104 = .ok (.iastore, 1) := by decide +kernel
theorem dX1_bring_105 : decode cX1_bring 105 = .ok (.iinc 3 1, 3) := by decide +kernel
theorem dX1_bring_108 : decode cX1_bring 108 = .ok (.goto (-82), 3) := by decide +kernel
theorem dX1_bring_111 : decode cX1_bring 111 = .ok (.aload_n 0, 1) := by decide +kernel
theorem dX1_bring_112 : decode cX1_bring 112 = .ok (.iconst 1, 1) := by decide +kernel
theorem dX1_bring_113 : decode cX1_bring 113 = .ok (.iconst 0, 1) := by decide +kernel
theorem dX1_bring_114 : decode cX1_bring 114 = .ok (.invokevirtual 48, 3) := by decide +kernel
theorem dX1_bring_117 : decode cX1_bring 117 = .ok (.iload_n 3, 1) := by decide +kernel
theorem dX1_bring_118 : decode cX1_bring 118 = .ok (.iadd, 1) := by decide +kernel
theorem dX1_bring_119 : decode cX1_bring 119 = .ok (.ireturn, 1) := by decide +kernel
set_option maxRecDepth 20000 in
theorem ggX1_number_X1_isDesk : GoodIn wsX1_number wsX1_isDesk := goodIn_r _ [6, 7, 8, 5, 9] (by decide +kernel) (by decide +kernel)
set_option maxRecDepth 20000 in
theorem gX1_number_X1_isDesk : GoodIn wsX1_number (va_wsS RX1 37 yX1_isDesk wsX1_isDesk) := goodIn_app (goodIn_of _ (by decide +kernel)) ggX1_number_X1_isDesk
set_option maxRecDepth 20000 in
theorem ggX1_number_X1_isPlace : GoodIn wsX1_number wsX1_isPlace := goodIn_r _ [13, 14, 7, 8, 5, 9, 15, 16, 17, 18, 19, 20, 21, 22, 23] (by decide +kernel) (by decide +kernel)
set_option maxRecDepth 20000 in
theorem gX1_number_X1_isPlace : GoodIn wsX1_number (wsV RX1 44 RX1 yX1_isPlace wsX1_isPlace) := goodIn_app (goodIn_of _ (by decide +kernel)) ggX1_number_X1_isPlace
theorem dX1_number_0 : decode cX1_number 0 = .ok (.iload_n 1, 1) := by decide +kernel
theorem dX1_number_1 : decode cX1_number 1 = .ok (.invokestatic 37, 3) := by decide +kernel
theorem dX1_number_4 : decode cX1_number 4 = .ok (.ifCond .eq 27, 3) := by decide +kernel
theorem dX1_number_7 : decode cX1_number 7 = .ok (.aload_n 0, 1) := by decide +kernel
theorem dX1_number_8 : decode cX1_number 8 = .ok (.iload_n 1, 1) := by decide +kernel
theorem dX1_number_9 : decode cX1_number 9 = .ok (.iload_n 2, 1) := by decide +kernel
theorem dX1_number_10 : decode cX1_number 10 = .ok (.invokevirtual 44, 3) := by decide +kernel
theorem dX1_number_13 : decode cX1_number 13 = .ok (.ifCond .eq 18, 3) := by decide +kernel
theorem dX1_number_16 : decode cX1_number 16 = .ok (.aload_n 0, 1) := by decide +kernel
theorem dX1_number_17 : decode cX1_number 17 = .ok (.getfield 13, 3) := by decide +kernel
theorem dX1_number_20 : decode cX1_number 20 = .ok (.bipush 8, 2) := by decide +kernel
theorem dX1_number_22 : decode cX1_number 22 = .ok (.iload_n 1, 1) := by decide +kernel
theorem dX1_number_23 : decode cX1_number 23 = .ok (.imul, 1) := by decide +kernel
theorem dX1_number_24 : decode cX1_number 24 = .ok (.iload_n 2, 1) := by decide +kernel
theorem dX1_number_25 : decode cX1_number 25 = .ok (.iadd, 1) := by decide +kernel
theorem dX1_number_26 : decode cX1_number 26 = .ok (.iaload, 1) := by decide +kernel
theorem dX1_number_27 : decode cX1_number 27 = .ok (.i2l, 1) := by decide +kernel
theorem dX1_number_28 : decode cX1_number 28 = .ok (.goto 6, 3) := by decide +kernel
theorem dX1_number_31 : decode cX1_number 31 = .ok (.ldc2_w 61, 3) := by decide +kernel
theorem dX1_number_34 : decode cX1_number 34 = .ok (.lreturn, 1) := by decide +kernel
theorem dX1_told_0 : decode cX1_told 0 = .ok (.iconst 0, 1) := by decide +kernel
theorem dX1_told_1 : decode cX1_told 1 = .ok (.istore_n 2, 1) := by decide +kernel
theorem dX1_told_2 : decode cX1_told 2 = .ok (.iconst 0, 1) := by decide +kernel
theorem dX1_told_3 : decode cX1_told 3 = .ok (.istore_n 3, 1) := by decide +kernel
theorem dX1_told_4 : decode cX1_told 4 = .ok (.iload_n 3, 1) := by decide +kernel
theorem dX1_told_5 : decode cX1_told 5 = .ok (.bipush 8, 2) := by decide +kernel
theorem dX1_told_7 : decode cX1_told 7 = .ok (.if_icmp .ge 26, 3) := by decide +kernel
theorem dX1_told_10 : decode cX1_told 10 = .ok (.iload_n 2, 1) := by decide +kernel
theorem dX1_told_11 : decode cX1_told 11 = .ok (.aload_n 0, 1) := by decide +kernel
theorem dX1_told_12 : decode cX1_told 12 = .ok (.getfield 9, 3) := by decide +kernel
theorem dX1_told_15 : decode cX1_told 15 = .ok (.iload_n 3, 1) := by decide +kernel
theorem dX1_told_16 : decode cX1_told 16 = .ok (.iaload, 1) := by decide +kernel
theorem dX1_told_17 : decode cX1_told 17 = .ok (.ifCond .le 7, 3) := by decide +kernel
theorem dX1_told_20 : decode cX1_told 20 = .ok (.iconst 1, 1) := by decide +kernel
theorem dX1_told_21 : decode cX1_told 21 = .ok (.goto 4, 3) := by decide +kernel
theorem dX1_told_24 : decode cX1_told 24 = .ok (.iconst 0, 1) := by decide +kernel
theorem dX1_told_25 : decode cX1_told 25 = .ok (.iadd, 1) := by decide +kernel
theorem dX1_told_26 : decode cX1_told 26 = .ok (.istore_n 2, 1) := by decide +kernel
theorem dX1_told_27 : decode cX1_told 27 = .ok (.iinc 3 1, 3) := by decide +kernel
theorem dX1_told_30 : decode cX1_told 30 = .ok (.goto (-26), 3) := by decide +kernel
theorem dX1_told_33 : decode cX1_told 33 = .ok (.iload_n 1, 1) := by decide +kernel
theorem dX1_told_34 : decode cX1_told 34 = .ok (.tableswitch 87 0 7 #[46, 51, 56, 61, 67, 73, 79, 82], 46) := by decide +kernel
theorem dX1_told_80 : decode cX1_told 80 = .ok (.aload_n 0, 1) := by decide +kernel
theorem dX1_told_81 : decode cX1_told 81 = .ok (.getfield 20, 3) := by decide +kernel
theorem dX1_told_84 : decode cX1_told 84 = .ok (.lreturn, 1) := by decide +kernel
theorem dX1_told_85 : decode cX1_told 85 = .ok (.aload_n 0, 1) := by decide +kernel
theorem dX1_told_86 : decode cX1_told 86 = .ok (.getfield 24, 3) := by decide +kernel
theorem dX1_told_89 : decode cX1_told 89 = .ok (.lreturn, 1) := by decide +kernel
theorem dX1_told_90 : decode cX1_told 90 = .ok (.aload_n 0, 1) := by decide +kernel
theorem dX1_told_91 : decode cX1_told 91 = .ok (.getfield 34, 3) := by decide +kernel
theorem dX1_told_94 : decode cX1_told 94 = .ok (.lreturn, 1) := by decide +kernel
theorem dX1_told_95 : decode cX1_told 95 = .ok (.aload_n 0, 1) := by decide +kernel
theorem dX1_told_96 : decode cX1_told 96 = .ok (.getfield 27, 3) := by decide +kernel
theorem dX1_told_99 : decode cX1_told 99 = .ok (.i2l, 1) := by decide +kernel
theorem dX1_told_100 : decode cX1_told 100 = .ok (.lreturn, 1) := by decide +kernel
theorem dX1_told_101 : decode cX1_told 101 = .ok (.aload_n 0, 1) := by decide +kernel
theorem dX1_told_102 : decode cX1_told 102 = .ok (.getfield 31, 3) := by decide +kernel
theorem dX1_told_105 : decode cX1_told 105 = .ok (.i2l, 1) := by decide +kernel
theorem dX1_told_106 : decode cX1_told 106 = .ok (.lreturn, 1) := by decide +kernel
theorem dX1_told_107 : decode cX1_told 107 = .ok (.aload_n 0, 1) := by decide +kernel
theorem dX1_told_108 : decode cX1_told 108 = .ok (.getfield 58, 3) := by decide +kernel
theorem dX1_told_111 : decode cX1_told 111 = .ok (.i2l, 1) := by decide +kernel
theorem dX1_told_112 : decode cX1_told 112 = .ok (.lreturn, 1) := by decide +kernel
theorem dX1_told_113 : decode cX1_told 113 = .ok (.iload_n 2, 1) := by decide +kernel
theorem dX1_told_114 : decode cX1_told 114 = .ok (.i2l, 1) := by decide +kernel
theorem dX1_told_115 : decode cX1_told 115 = .ok (.lreturn, 1) := by decide +kernel
theorem dX1_told_116 : decode cX1_told 116 = .ok (.aload_n 0, 1) := by decide +kernel
theorem dX1_told_117 : decode cX1_told 117 = .ok (.getfield 55, 3) := by decide +kernel
theorem dX1_told_120 : decode cX1_told 120 = .ok (.lreturn, 1) := by decide +kernel
theorem dX1_told_121 : decode cX1_told 121 = .ok (.ldc2_w 63, 3) := by decide +kernel
theorem dX1_told_124 : decode cX1_told 124 = .ok (.lreturn, 1) := by decide +kernel
theorem dJ9_max_7cf53_0 : decode cJ9_max_7cf53 0 = .ok (.iload_n 0, 1) := by decide +kernel
theorem dJ9_max_7cf53_1 : decode cJ9_max_7cf53 1 = .ok (.iload_n 1, 1) := by decide +kernel
theorem dJ9_max_7cf53_2 : decode cJ9_max_7cf53 2 = .ok (.if_icmp .lt 7, 3) := by decide +kernel
theorem dJ9_max_7cf53_5 : decode cJ9_max_7cf53 5 = .ok (.iload_n 0, 1) := by decide +kernel
theorem dJ9_max_7cf53_6 : decode cJ9_max_7cf53 6 = .ok (.goto 4, 3) := by decide +kernel
theorem dJ9_max_7cf53_9 : decode cJ9_max_7cf53 9 = .ok (.iload_n 1, 1) := by decide +kernel
theorem dJ9_max_7cf53_10 : decode cJ9_max_7cf53 10 = .ok (.ireturn, 1) := by decide +kernel

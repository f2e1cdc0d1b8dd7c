theorem dX7_init_0 : decode cX7_init 0 = .ok (.aload_n 0, 1) := by decide +kernel
theorem dX7_init_1 : decode cX7_init 1 = .ok (.invokespecial 1, 3) := by decide +kernel
theorem dX7_init_4 : decode cX7_init 4 = .ok (.aload_n 0, 1) := by decide +kernel
theorem dX7_init_5 : decode cX7_init 5 = .ok (.sipush 581, 3) := by decide +kernel
theorem dX7_init_8 : decode cX7_init 8 = .ok (.newarray .int, 2) := by decide +kernel
theorem dX7_init_10 : decode cX7_init 10 = .ok (.putfield 7, 3) := by decide +kernel
theorem dX7_init_13 : decode cX7_init 13 = .ok (.aload_n 0, 1) := by decide +kernel
theorem dX7_init_14 : decode cX7_init 14 = .ok (.sipush 581, 3) := by decide +kernel
theorem dX7_init_17 : decode cX7_init 17 = .ok (.newarray .int, 2) := by decide +kernel
theorem dX7_init_19 : decode cX7_init 19 = .ok (.putfield 13, 3) := by decide +kernel
theorem dX7_init_22 : decode cX7_init 22 = .ok (.aload_n 0, 1) := by decide +kernel
theorem dX7_init_23 : decode cX7_init 23 = .ok (.sipush 581, 3) := by decide +kernel
theorem dX7_init_26 : decode cX7_init 26 = .ok (.newarray .int, 2) := by decide +kernel
theorem dX7_init_28 : decode cX7_init 28 = .ok (.putfield 16, 3) := by decide +kernel
theorem dX7_init_31 : decode cX7_init 31 = .ok (.aload_n 0, 1) := by decide +kernel
theorem dX7_init_32 : decode cX7_init 32 = .ok (.sipush 2324, 3) := by decide +kernel
theorem dX7_init_35 : decode cX7_init 35 = .ok (.newarray .int, 2) := by decide +kernel
theorem dX7_init_37 : decode cX7_init 37 = .ok (.putfield 19, 3) := by decide +kernel
theorem dX7_init_40 : decode cX7_init 40 = .ok (.aload_n 0, 1) := by decide +kernel
theorem dX7_init_41 : decode cX7_init 41 = .ok (.bipush 100, 2) := by decide +kernel
theorem dX7_init_43 : decode cX7_init 43 = .ok (.newarray .int, 2) := by decide +kernel
theorem dX7_init_45 : decode cX7_init 45 = .ok (.putfield 22, 3) := by decide +kernel
theorem dX7_init_48 : decode cX7_init 48 = .ok (.sipush 132, 3) := by decide +kernel
theorem dX7_init_51 : decode cX7_init 51 = .ok (.istore_n 1, 1) := by decide +kernel
theorem dX7_init_52 : decode cX7_init 52 = .ok (.iload_n 1, 1) := by decide +kernel
theorem dX7_init_53 : decode cX7_init 53 = .ok (.sipush 240, 3) := by decide +kernel
theorem dX7_init_56 : decode cX7_init 56 = .ok (.if_icmp .ge 16, 3) := by decide +kernel
theorem dX7_init_59 : decode cX7_init 59 = .ok (.aload_n 0, 1) := by decide +kernel
theorem dX7_init_60 : decode cX7_init 60 = .ok (.getfield 7, 3) := by decide +kernel
theorem dX7_init_63 : decode cX7_init 63 = .ok (.iload_n 1, 1) := by decide +kernel
theorem dX7_init_64 : decode cX7_init 64 = .ok (.iconst (-1), 1) := by decide +kernel
theorem dX7_init_65 : decode cX7_init 65 = .ok (.iastore, 1) := by decide +kernel
theorem dX7_init_66 : decode cX7_init 66 = .ok (.iinc 1 1, 3) := by decide +kernel
theorem dX7_init_69 : decode cX7_init 69 = .ok (.goto (-17), 3) := by decide +kernel
theorem dX7_init_72 : decode cX7_init 72 = .ok (.return_, 1) := by decide +kernel
theorem dX7_thrown_0 : decode cX7_thrown 0 = .ok (.aload_n 0, 1) := by decide +kernel
theorem dX7_thrown_1 : decode cX7_thrown 1 = .ok (.getfield 25, 3) := by decide +kernel
theorem dX7_thrown_4 : decode cX7_thrown 4 = .ok (.ireturn, 1) := by decide +kernel
theorem dX7_in_0 : decode cX7_in 0 = .ok (.iload_n 0, 1) := by decide +kernel
theorem dX7_in_1 : decode cX7_in 1 = .ok (.iload_n 1, 1) := by decide +kernel
theorem dX7_in_2 : decode cX7_in 2 = .ok (.if_icmp .lt 12, 3) := by decide +kernel
theorem dX7_in_5 : decode cX7_in 5 = .ok (.iload_n 0, 1) := by decide +kernel
theorem dX7_in_6 : decode cX7_in 6 = .ok (.iload_n 2, 1) := by decide +kernel
theorem dX7_in_7 : decode cX7_in 7 = .ok (.if_icmp .gt 7, 3) := by decide +kernel
theorem dX7_in_10 : decode cX7_in 10 = .ok (.iconst 1, 1) := by decide +kernel
theorem dX7_in_11 : decode cX7_in 11 = .ok (.goto 4, 3) := by decide +kernel
theorem dX7_in_14 : decode cX7_in 14 = .ok (.iconst 0, 1) := by decide +kernel
theorem dX7_in_15 : decode cX7_in 15 = .ok (.ireturn, 1) := by decide +kernel
theorem dX7_bring_0 : decode cX7_bring 0 = .ok (.iconst 0, 1) := by decide +kernel
theorem dX7_bring_1 : decode cX7_bring 1 = .ok (.istore 4, 2) := by decide +kernel
theorem dX7_bring_3 : decode cX7_bring 3 = .ok (.iload 4, 2) := by decide +kernel
theorem dX7_bring_5 : decode cX7_bring 5 = .ok (.sipush 581, 3) := by decide +kernel
theorem dX7_bring_8 : decode cX7_bring 8 = .ok (.if_icmp .ge 21, 3) := by decide +kernel
theorem dX7_bring_11 : decode cX7_bring 11 = .ok (.aload_n 2, 1) := by decide +kernel
theorem dX7_bring_12 : decode cX7_bring 12 = .ok (.iload_n 3, 1) := by decide +kernel
theorem dX7_bring_13 : decode cX7_bring 13 = .ok (.iload 4, 2) := by decide +kernel
theorem dX7_bring_15 : decode cX7_bring 15 = .ok (.iadd, 1) := by decide +kernel
theorem dX7_bring_16 : decode cX7_bring 16 = .ok (.aload_n 0, 1) := by decide +kernel
theorem dX7_bring_17 : decode cX7_bring 17 = .ok (.iload_n 1, 1) := by decide +kernel
theorem dX7_bring_18 : decode cX7_bring 18 = .ok (.iload 4, 2) := by decide +kernel
theorem dX7_bring_20 : decode cX7_bring 20 = .ok (.iadd, 1) := by decide +kernel
theorem dX7_bring_21 : decode cX7_bring 21 = .ok (.iaload, 1) := by decide +kernel
theorem dX7_bring_22 : decode cX7_bring 22 = .ok (.iastore, 1) := by decide +kernel
theorem dX7_bring_23 : decode cX7_bring 23 = .ok (.iinc 4 1, 3) := by decide +kernel
theorem dX7_bring_26 : decode cX7_bring 26 = .ok (.goto (-23), 3) := by decide +kernel
theorem dX7_bring_29 : decode cX7_bring 29 = .ok (.return_, 1) := by decide +kernel
set_option maxRecDepth 20000 in
theorem ggX7_keep_X7_bring : GoodIn wsX7_keep wsX7_bring := goodIn_r _ [7] (by decide +kernel) (by decide +kernel)
set_option maxRecDepth 20000 in
theorem gX7_keep_X7_bring : GoodIn wsX7_keep (va_wsS RX7 32 yX7_bring wsX7_bring) := goodIn_app (goodIn_of _ (by decide +kernel)) ggX7_keep_X7_bring
theorem dX7_keep_0 : decode cX7_keep 0 = .ok (.aload_n 0, 1) := by decide +kernel
theorem dX7_keep_1 : decode cX7_keep 1 = .ok (.getfield 29, 3) := by decide +kernel
theorem dX7_keep_4 : decode cX7_keep 4 = .ok (.iconst 4, 1) := by decide +kernel
theorem dX7_keep_5 : decode cX7_keep 5 = .ok (.if_icmp .ne 44, 3) := by decide +kernel
theorem dX7_keep_8 : decode cX7_keep 8 = .ok (.iconst 0, 1) := by decide +kernel
theorem dX7_keep_9 : decode cX7_keep 9 = .ok (.istore_n 1, 1) := by decide +kernel
theorem dX7_keep_10 : decode cX7_keep 10 = .ok (.iload_n 1, 1) := by decide +kernel
theorem dX7_keep_11 : decode cX7_keep 11 = .ok (.sipush 1743, 3) := by decide +kernel
theorem dX7_keep_14 : decode cX7_keep 14 = .ok (.if_icmp .ge 25, 3) := by decide +kernel
theorem dX7_keep_17 : decode cX7_keep 17 = .ok (.aload_n 0, 1) := by decide +kernel
theorem dX7_keep_18 : decode cX7_keep 18 = .ok (.getfield 19, 3) := by decide +kernel
theorem dX7_keep_21 : decode cX7_keep 21 = .ok (.iload_n 1, 1) := by decide +kernel
theorem dX7_keep_22 : decode cX7_keep 22 = .ok (.aload_n 0, 1) := by decide +kernel
theorem dX7_keep_23 : decode cX7_keep 23 = .ok (.getfield 19, 3) := by decide +kernel
theorem dX7_keep_26 : decode cX7_keep 26 = .ok (.iload_n 1, 1) := by decide +kernel
theorem dX7_keep_27 : decode cX7_keep 27 = .ok (.sipush 581, 3) := by decide +kernel
theorem dX7_keep_30 : decode cX7_keep 30 = .ok (.iadd, 1) := by decide +kernel
theorem dX7_keep_31 : decode cX7_keep 31 = .ok (.iaload, 1) := by decide +kernel
theorem dX7_keep_32 : decode cX7_keep 32 = .ok (.iastore, 1) := by decide +kernel
theorem dX7_keep_33 : decode cX7_keep 33 = .ok (.iinc 1 1, 3) := by decide +kernel
theorem dX7_keep_36 : decode cX7_keep 36 = .ok (.goto (-26), 3) := by decide +kernel
theorem dX7_keep_39 : decode cX7_keep 39 = .ok (.aload_n 0, 1) := by decide +kernel
theorem dX7_keep_40 : decode cX7_keep 40 = .ok (.dup, 1) := by decide +kernel
theorem dX7_keep_41 : decode cX7_keep 41 = .ok (.getfield 29, 3) := by decide +kernel
theorem dX7_keep_44 : decode cX7_keep 44 = .ok (.iconst 1, 1) := by decide +kernel
theorem dX7_keep_45 : decode cX7_keep 45 = .ok (.isub, 1) := by decide +kernel
theorem dX7_keep_46 : decode cX7_keep 46 = .ok (.putfield 29, 3) := by decide +kernel
theorem dX7_keep_49 : decode cX7_keep 49 = .ok (.aload_n 0, 1) := by decide +kernel
theorem dX7_keep_50 : decode cX7_keep 50 = .ok (.getfield 7, 3) := by decide +kernel
theorem dX7_keep_53 : decode cX7_keep 53 = .ok (.iconst 0, 1) := by decide +kernel
theorem dX7_keep_54 : decode cX7_keep 54 = .ok (.aload_n 0, 1) := by decide +kernel
theorem dX7_keep_55 : decode cX7_keep 55 = .ok (.getfield 19, 3) := by decide +kernel
theorem dX7_keep_58 : decode cX7_keep 58 = .ok (.sipush 581, 3) := by decide +kernel
theorem dX7_keep_61 : decode cX7_keep 61 = .ok (.aload_n 0, 1) := by decide +kernel
theorem dX7_keep_62 : decode cX7_keep 62 = .ok (.getfield 29, 3) := by decide +kernel
theorem dX7_keep_65 : decode cX7_keep 65 = .ok (.imul, 1) := by decide +kernel
theorem dX7_keep_66 : decode cX7_keep 66 = .ok (.invokestatic 32, 3) := by decide +kernel
theorem dX7_keep_69 : decode cX7_keep 69 = .ok (.aload_n 0, 1) := by decide +kernel
theorem dX7_keep_70 : decode cX7_keep 70 = .ok (.dup, 1) := by decide +kernel
theorem dX7_keep_71 : decode cX7_keep 71 = .ok (.getfield 29, 3) := by decide +kernel
theorem dX7_keep_74 : decode cX7_keep 74 = .ok (.iconst 1, 1) := by decide +kernel
theorem dX7_keep_75 : decode cX7_keep 75 = .ok (.iadd, 1) := by decide +kernel
theorem dX7_keep_76 : decode cX7_keep 76 = .ok (.putfield 29, 3) := by decide +kernel
theorem dX7_keep_79 : decode cX7_keep 79 = .ok (.return_, 1) := by decide +kernel
set_option maxRecDepth 20000 in
theorem ggX7_isUser_X7_in : GoodIn wsX7_isUser wsX7_in := goodIn_r _ [4] (by decide +kernel) (by decide +kernel)
set_option maxRecDepth 20000 in
theorem gX7_isUser_X7_in : GoodIn wsX7_isUser (va_wsS RX7 36 yX7_in wsX7_in) := goodIn_app (goodIn_of _ (by decide +kernel)) ggX7_isUser_X7_in
theorem dX7_isUser_0 : decode cX7_isUser 0 = .ok (.iload_n 0, 1) := by decide +kernel
theorem dX7_isUser_1 : decode cX7_isUser 1 = .ok (.iconst 0, 1) := by decide +kernel
theorem dX7_isUser_2 : decode cX7_isUser 2 = .ok (.iconst 5, 1) := by decide +kernel
theorem dX7_isUser_3 : decode cX7_isUser 3 = .ok (.invokestatic 36, 3) := by decide +kernel
theorem dX7_isUser_6 : decode cX7_isUser 6 = .ok (.ireturn, 1) := by decide +kernel
set_option maxRecDepth 20000 in
theorem ggX7_whyNot_X7_isUser : GoodIn wsX7_whyNot wsX7_isUser := goodIn_r _ [4, 5, 6, 3, 7] (by decide +kernel) (by decide +kernel)
set_option maxRecDepth 20000 in
theorem gX7_whyNot_X7_isUser : GoodIn wsX7_whyNot (va_wsS RX7 40 yX7_isUser wsX7_isUser) := goodIn_app (goodIn_of _ (by decide +kernel)) ggX7_whyNot_X7_isUser
theorem dX7_whyNot_0 : decode cX7_whyNot 0 = .ok (.iload_n 0, 1) := by decide +kernel
theorem dX7_whyNot_1 : decode cX7_whyNot 1 = .ok (.invokestatic 40, 3) := by decide +kernel
theorem dX7_whyNot_4 : decode cX7_whyNot 4 = .ok (.ifCond .eq 10, 3) := by decide +kernel
theorem dX7_whyNot_7 : decode cX7_whyNot 7 = .ok (.iload_n 1, 1) := by decide +kernel
theorem dX7_whyNot_8 : decode cX7_whyNot 8 = .ok (.invokestatic 40, 3) := by decide +kernel
theorem dX7_whyNot_11 : decode cX7_whyNot 11 = .ok (.ifCond .ne 7, 3) := by decide +kernel
theorem dX7_whyNot_14 : decode cX7_whyNot 14 = .ok (.iconst 1, 1) := by decide +kernel
theorem dX7_whyNot_15 : decode cX7_whyNot 15 = .ok (.goto 13, 3) := by decide +kernel
theorem dX7_whyNot_18 : decode cX7_whyNot 18 = .ok (.iload_n 0, 1) := by decide +kernel
theorem dX7_whyNot_19 : decode cX7_whyNot 19 = .ok (.iload_n 1, 1) := by decide +kernel
theorem dX7_whyNot_20 : decode cX7_whyNot 20 = .ok (.if_icmp .ne 7, 3) := by decide +kernel
theorem dX7_whyNot_23 : decode cX7_whyNot 23 = .ok (.iconst 2, 1) := by decide +kernel
theorem dX7_whyNot_24 : decode cX7_whyNot 24 = .ok (.goto 4, 3) := by decide +kernel
theorem dX7_whyNot_27 : decode cX7_whyNot 27 = .ok (.iconst 0, 1) := by decide +kernel
theorem dX7_whyNot_28 : decode cX7_whyNot 28 = .ok (.ireturn, 1) := by decide +kernel
theorem dX7_seatCell_0 : decode cX7_seatCell 0 = .ok (.iconst 0, 1) := by decide +kernel
theorem dX7_seatCell_1 : decode cX7_seatCell 1 = .ok (.bipush 9, 2) := by decide +kernel
theorem dX7_seatCell_3 : decode cX7_seatCell 3 = .ok (.iload_n 0, 1) := by decide +kernel
theorem dX7_seatCell_4 : decode cX7_seatCell 4 = .ok (.imul, 1) := by decide +kernel
theorem dX7_seatCell_5 : decode cX7_seatCell 5 = .ok (.iadd, 1) := by decide +kernel
theorem dX7_seatCell_6 : decode cX7_seatCell 6 = .ok (.iconst 3, 1) := by decide +kernel
theorem dX7_seatCell_7 : decode cX7_seatCell 7 = .ok (.iload_n 1, 1) := by decide +kernel
theorem dX7_seatCell_8 : decode cX7_seatCell 8 = .ok (.imul, 1) := by decide +kernel
theorem dX7_seatCell_9 : decode cX7_seatCell 9 = .ok (.iadd, 1) := by decide +kernel
theorem dX7_seatCell_10 : decode cX7_seatCell 10 = .ok (.ireturn, 1) := by decide +kernel
set_option maxRecDepth 20000 in
theorem ggX7_isOn_X7_seatCell : GoodIn wsX7_isOn wsX7_seatCell := goodIn_r _ [5] (by decide +kernel) (by decide +kernel)
set_option maxRecDepth 20000 in
theorem gX7_isOn_X7_seatCell : GoodIn wsX7_isOn (va_wsS RX7 44 yX7_seatCell wsX7_seatCell) := goodIn_app (goodIn_of _ (by decide +kernel)) ggX7_isOn_X7_seatCell
theorem dX7_isOn_0 : decode cX7_isOn 0 = .ok (.aload_n 0, 1) := by decide +kernel
theorem dX7_isOn_1 : decode cX7_isOn 1 = .ok (.getfield 7, 3) := by decide +kernel
theorem dX7_isOn_4 : decode cX7_isOn 4 = .ok (.iload_n 1, 1) := by decide +kernel
theorem dX7_isOn_5 : decode cX7_isOn 5 = .ok (.iload_n 2, 1) := by decide +kernel
theorem dX7_isOn_6 : decode cX7_isOn 6 = .ok (.invokestatic 44, 3) := by decide +kernel
theorem dX7_isOn_9 : decode cX7_isOn 9 = .ok (.iaload, 1) := by decide +kernel
theorem dX7_isOn_10 : decode cX7_isOn 10 = .ok (.iconst 1, 1) := by decide +kernel
theorem dX7_isOn_11 : decode cX7_isOn 11 = .ok (.if_icmp .ne 7, 3) := by decide +kernel
theorem dX7_isOn_14 : decode cX7_isOn 14 = .ok (.iconst 1, 1) := by decide +kernel
theorem dX7_isOn_15 : decode cX7_isOn 15 = .ok (.goto 4, 3) := by decide +kernel
theorem dX7_isOn_18 : decode cX7_isOn 18 = .ok (.iconst 0, 1) := by decide +kernel
theorem dX7_isOn_19 : decode cX7_isOn 19 = .ok (.ireturn, 1) := by decide +kernel
set_option maxRecDepth 20000 in
theorem ggX7_seatsOn_X7_seatCell : GoodIn wsX7_seatsOn wsX7_seatCell := goodIn_r _ [5] (by decide +kernel) (by decide +kernel)
set_option maxRecDepth 20000 in
theorem gX7_seatsOn_X7_seatCell : GoodIn wsX7_seatsOn (va_wsS RX7 44 yX7_seatCell wsX7_seatCell) := goodIn_app (goodIn_of _ (by decide +kernel)) ggX7_seatsOn_X7_seatCell
theorem dX7_seatsOn_0 : decode cX7_seatsOn 0 = .ok (.iconst 0, 1) := by decide +kernel
theorem dX7_seatsOn_1 : decode cX7_seatsOn 1 = .ok (.istore_n 2, 1) := by decide +kernel
theorem dX7_seatsOn_2 : decode cX7_seatsOn 2 = .ok (.iconst 0, 1) := by decide +kernel
theorem dX7_seatsOn_3 : decode cX7_seatsOn 3 = .ok (.istore_n 3, 1) := by decide +kernel
theorem dX7_seatsOn_4 : decode cX7_seatsOn 4 = .ok (.iload_n 3, 1) := by decide +kernel
theorem dX7_seatsOn_5 : decode cX7_seatsOn 5 = .ok (.iconst 3, 1) := by decide +kernel
theorem dX7_seatsOn_6 : decode cX7_seatsOn 6 = .ok (.if_icmp .ge 22, 3) := by decide +kernel
theorem dX7_seatsOn_9 : decode cX7_seatsOn 9 = .ok (.iload_n 2, 1) := by decide +kernel
theorem dX7_seatsOn_10 : decode cX7_seatsOn 10 = .ok (.aload_n 0, 1) := by decide +kernel
theorem dX7_seatsOn_11 : decode cX7_seatsOn 11 = .ok (.getfield 7, 3) := by decide +kernel
theorem dX7_seatsOn_14 : decode cX7_seatsOn 14 = .ok (.iload_n 1, 1) := by decide +kernel
theorem dX7_seatsOn_15 : decode cX7_seatsOn 15 = .ok (.iload_n 3, 1) := by decide +kernel
theorem dX7_seatsOn_16 : decode cX7_seatsOn 16 = .ok (.invokestatic 44, 3) := by decide +kernel
theorem dX7_seatsOn_19 : decode cX7_seatsOn 19 = .ok (.iaload, 1) := by decide +kernel
theorem dX7_seatsOn_20 : decode cX7_seatsOn 20 = .ok (.iadd, 1) := by decide +kernel
theorem dX7_seatsOn_21 : decode cX7_seatsOn 21 = .ok (.istore_n 2, 1) := by decide +kernel
theorem dX7_seatsOn_22 : decode cX7_seatsOn 22 = .ok (.iinc 3 1, 3) := by decide +kernel
theorem dX7_seatsOn_25 : decode cX7_seatsOn 25 = .ok (.goto (-21), 3) := by decide +kernel
theorem dX7_seatsOn_28 : decode cX7_seatsOn 28 = .ok (.iload_n 2, 1) := by decide +kernel
theorem dX7_seatsOn_29 : decode cX7_seatsOn 29 = .ok (.ireturn, 1) := by decide +kernel
theorem dX7_state_0 : decode cX7_state 0 = .ok (.aload_n 0, 1) := by decide +kernel
theorem dX7_state_1 : decode cX7_state 1 = .ok (.getfield 7, 3) := by decide +kernel
theorem dX7_state_4 : decode cX7_state 4 = .ok (.bipush 54, 2) := by decide +kernel
theorem dX7_state_6 : decode cX7_state 6 = .ok (.bipush 6, 2) := by decide +kernel
theorem dX7_state_8 : decode cX7_state 8 = .ok (.iload_n 1, 1) := by decide +kernel
theorem dX7_state_9 : decode cX7_state 9 = .ok (.imul, 1) := by decide +kernel
theorem dX7_state_10 : decode cX7_state 10 = .ok (.iadd, 1) := by decide +kernel
theorem dX7_state_11 : decode cX7_state 11 = .ok (.iload_n 2, 1) := by decide +kernel
theorem dX7_state_12 : decode cX7_state 12 = .ok (.iadd, 1) := by decide +kernel
theorem dX7_state_13 : decode cX7_state 13 = .ok (.iaload, 1) := by decide +kernel
theorem dX7_state_14 : decode cX7_state 14 = .ok (.ireturn, 1) := by decide +kernel
set_option maxRecDepth 20000 in
theorem ggX7_has_X7_state : GoodIn wsX7_has wsX7_state := goodIn_r _ [5, 6, 7, 8, 9, 10, 11, 12, 13, 14, 15, 16] (by decide +kernel) (by decide +kernel)
set_option maxRecDepth 20000 in
theorem gX7_has_X7_state : GoodIn wsX7_has (wsV RX7 48 RX7 yX7_state wsX7_state) := goodIn_app (goodIn_of _ (by decide +kernel)) ggX7_has_X7_state
theorem dX7_has_0 : decode cX7_has 0 = .ok (.aload_n 0, 1) := by decide +kernel
theorem dX7_has_1 : decode cX7_has 1 = .ok (.iload_n 1, 1) := by decide +kernel
theorem dX7_has_2 : decode cX7_has 2 = .ok (.iload_n 2, 1) := by decide +kernel
theorem dX7_has_3 : decode cX7_has 3 = .ok (.invokevirtual 48, 3) := by decide +kernel
theorem dX7_has_6 : decode cX7_has 6 = .ok (.iload_n 3, 1) := by decide +kernel
theorem dX7_has_7 : decode cX7_has 7 = .ok (.iand, 1) := by decide +kernel
theorem dX7_has_8 : decode cX7_has 8 = .ok (.ifCond .eq 7, 3) := by decide +kernel
theorem dX7_has_11 : decode cX7_has 11 = .ok (.iconst 1, 1) := by decide +kernel
theorem dX7_has_12 : decode cX7_has 12 = .ok (.goto 4, 3) := by decide +kernel
theorem dX7_has_15 : decode cX7_has 15 = .ok (.iconst 0, 1) := by decide +kernel
theorem dX7_has_16 : decode cX7_has 16 = .ok (.ireturn, 1) := by decide +kernel
set_option maxRecDepth 20000 in
theorem ggX7_become_X7_state : GoodIn wsX7_become wsX7_state := goodIn_r _ [6, 1, 7, 8, 9, 10, 11, 12, 13, 14, 15, 16] (by decide +kernel) (by decide +kernel)
set_option maxRecDepth 20000 in
theorem gX7_become_X7_state : GoodIn wsX7_become (wsV RX7 48 RX7 yX7_state wsX7_state) := goodIn_app (goodIn_of _ (by decide +kernel)) ggX7_become_X7_state
theorem dX7_become_0 : decode cX7_become 0 = .ok (.aload_n 0, 1) := by decide +kernel
theorem dX7_become_1 : decode cX7_become 1 = .ok (.iload_n 1, 1) := by decide +kernel
theorem dX7_become_2 : decode cX7_become 2 = .ok (.iload_n 2, 1) := by decide +kernel
theorem dX7_become_3 : decode cX7_become 3 = .ok (.invokevirtual 48, 3) := by decide +kernel
theorem dX7_become_6 : decode cX7_become 6 = .ok (.iload_n 3, 1) := by decide +kernel
theorem dX7_become_7 : decode cX7_become 7 = .ok (.if_icmp .eq 54, 3) := by decide +kernel
theorem dX7_become_10 : decode cX7_become 10 = .ok (.aload_n 0, 1) := by decide +kernel
theorem dX7_become_11 : decode cX7_become 11 = .ok (.getfield 7, 3) := by decide +kernel
theorem dX7_become_14 : decode cX7_become 14 = .ok (.bipush 54, 2) := by decide +kernel
theorem dX7_become_16 : decode cX7_become 16 = .ok (.bipush 6, 2) := by decide +kernel
theorem dX7_become_18 : decode cX7_become 18 = .ok (.iload_n 1, 1) := by decide +kernel
theorem dX7_become_19 : decode cX7_become 19 = .ok (.imul, 1) := by decide +kernel
theorem dX7_become_20 : decode cX7_become 20 = .ok (.iadd, 1) := by decide +kernel
theorem dX7_become_21 : decode cX7_become 21 = .ok (.iload_n 2, 1) := by decide +kernel
theorem dX7_become_22 : decode cX7_become 22 = .ok (.iadd, 1) := by decide +kernel
theorem dX7_become_23 : decode cX7_become 23 = .ok (.iload_n 3, 1) := by decide +kernel
theorem dX7_become_24 : decode cX7_become 24 = .ok (.iastore, 1) := by decide +kernel
theorem dX7_become_25 : decode cX7_become 25 = .ok (.aload_n 0, 1) := by decide +kernel
theorem dX7_become_26 : decode cX7_become 26 = .ok (.getfield 7, 3) := by decide +kernel
theorem dX7_become_29 : decode cX7_become 29 = .ok (.bipush 126, 2) := by decide +kernel
theorem dX7_become_31 : decode cX7_become 31 = .ok (.iload_n 1, 1) := by decide +kernel
theorem dX7_become_32 : decode cX7_become 32 = .ok (.iadd, 1) := by decide +kernel
theorem dX7_become_33 : decode cX7_become 33 = .ok (.dup2, 1) := by decide +kernel
theorem dX7_become_34 : decode cX7_become 34 = .ok (.iaload, 1) := by decide +kernel
theorem dX7_become_35 : decode cX7_become 35 = .ok (.iconst 1, 1) := by decide +kernel
theorem dX7_become_36 : decode cX7_become 36 = .ok (.iadd, 1) := by decide +kernel
theorem dX7_become_37 : decode cX7_become 37 = .ok (.iastore, 1) := by decide +kernel
theorem dX7_become_38 : decode cX7_become 38 = .ok (.aload_n 0, 1) := by decide +kernel
theorem dX7_become_39 : decode cX7_become 39 = .ok (.getfield 7, 3) := by decide +kernel
theorem dX7_become_42 : decode cX7_become 42 = .ok (.bipush 90, 2) := by decide +kernel
theorem dX7_become_44 : decode cX7_become 44 = .ok (.bipush 6, 2) := by decide +kernel
theorem dX7_become_46 : decode cX7_become 46 = .ok (.iload_n 1, 1) := by decide +kernel
theorem dX7_become_47 : decode cX7_become 47 = .ok (.imul, 1) := by decide +kernel
theorem dX7_become_48 : decode cX7_become 48 = .ok (.iadd, 1) := by decide +kernel
theorem dX7_become_49 : decode cX7_become 49 = .ok (.iload_n 2, 1) := by decide +kernel
theorem dX7_become_50 : decode cX7_become 50 = .ok (.iadd, 1) := by decide +kernel
theorem dX7_become_51 : decode cX7_become 51 = .ok (.aload_n 0, 1) := by decide +kernel
theorem dX7_become_52 : decode cX7_become 52 = .ok (.getfield 7, 3) := by decide +kernel
theorem dX7_become_55 : decode cX7_become 55 = .ok (.bipush 126, 2) := by decide +kernel
theorem dX7_become_57 : decode cX7_become 57 = .ok (.iload_n 1, 1) := by decide +kernel
theorem dX7_become_58 : decode cX7_become 58 = .ok (.iadd, 1) := by decide +kernel
theorem dX7_become_59 : decode cX7_become 59 = .ok (.iaload, 1) := by decide +kernel
theorem dX7_become_60 : decode cX7_become 60 = .ok (.iastore, 1) := by decide +kernel
theorem dX7_become_61 : decode cX7_become 61 = .ok (.return_, 1) := by decide +kernel
theorem dX7_apart_0 : decode cX7_apart 0 = .ok (.aload_n 0, 1) := by decide +kernel
theorem dX7_apart_1 : decode cX7_apart 1 = .ok (.getfield 7, 3) := by decide +kernel
theorem dX7_apart_4 : decode cX7_apart 4 = .ok (.sipush 240, 3) := by decide +kernel
theorem dX7_apart_7 : decode cX7_apart 7 = .ok (.bipush 6, 2) := by decide +kernel
theorem dX7_apart_9 : decode cX7_apart 9 = .ok (.iload_n 1, 1) := by decide +kernel
theorem dX7_apart_10 : decode cX7_apart 10 = .ok (.imul, 1) := by decide +kernel
theorem dX7_apart_11 : decode cX7_apart 11 = .ok (.iadd, 1) := by decide +kernel
theorem dX7_apart_12 : decode cX7_apart 12 = .ok (.iload_n 2, 1) := by decide +kernel
theorem dX7_apart_13 : decode cX7_apart 13 = .ok (.iadd, 1) := by decide +kernel
theorem dX7_apart_14 : decode cX7_apart 14 = .ok (.iaload, 1) := by decide +kernel
theorem dX7_apart_15 : decode cX7_apart 15 = .ok (.iconst 1, 1) := by decide +kernel
theorem dX7_apart_16 : decode cX7_apart 16 = .ok (.if_icmp .eq 22, 3) := by decide +kernel
theorem dX7_apart_19 : decode cX7_apart 19 = .ok (.aload_n 0, 1) := by decide +kernel
theorem dX7_apart_20 : decode cX7_apart 20 = .ok (.getfield 7, 3) := by decide +kernel
theorem dX7_apart_23 : decode cX7_apart 23 = .ok (.sipush 240, 3) := by decide +kernel
theorem dX7_apart_26 : decode cX7_apart 26 = .ok (.bipush 6, 2) := by decide +kernel
theorem dX7_apart_28 : decode cX7_apart 28 = .ok (.iload_n 2, 1) := by decide +kernel
theorem dX7_apart_29 : decode cX7_apart 29 = .ok (.imul, 1) := by decide +kernel
theorem dX7_apart_30 : decode cX7_apart 30 = .ok (.iadd, 1) := by decide +kernel
theorem dX7_apart_31 : decode cX7_apart 31 = .ok (.iload_n 1, 1) := by decide +kernel
theorem dX7_apart_32 : decode cX7_apart 32 = .ok (.iadd, 1) := by decide +kernel
theorem dX7_apart_33 : decode cX7_apart 33 = .ok (.iaload, 1) := by decide +kernel
theorem dX7_apart_34 : decode cX7_apart 34 = .ok (.iconst 1, 1) := by decide +kernel
theorem dX7_apart_35 : decode cX7_apart 35 = .ok (.if_icmp .ne 7, 3) := by decide +kernel
theorem dX7_apart_38 : decode cX7_apart 38 = .ok (.iconst 1, 1) := by decide +kernel
theorem dX7_apart_39 : decode cX7_apart 39 = .ok (.goto 4, 3) := by decide +kernel
theorem dX7_apart_42 : decode cX7_apart 42 = .ok (.iconst 0, 1) := by decide +kernel
theorem dX7_apart_43 : decode cX7_apart 43 = .ok (.ireturn, 1) := by decide +kernel
theorem dX7_viewCell_0 : decode cX7_viewCell 0 = .ok (.sipush 132, 3) := by decide +kernel
theorem dX7_viewCell_3 : decode cX7_viewCell 3 = .ok (.bipush 18, 2) := by decide +kernel
theorem dX7_viewCell_5 : decode cX7_viewCell 5 = .ok (.iload_n 0, 1) := by decide +kernel
theorem dX7_viewCell_6 : decode cX7_viewCell 6 = .ok (.imul, 1) := by decide +kernel
theorem dX7_viewCell_7 : decode cX7_viewCell 7 = .ok (.iadd, 1) := by decide +kernel
theorem dX7_viewCell_8 : decode cX7_viewCell 8 = .ok (.iconst 3, 1) := by decide +kernel
theorem dX7_viewCell_9 : decode cX7_viewCell 9 = .ok (.iload_n 1, 1) := by decide +kernel
theorem dX7_viewCell_10 : decode cX7_viewCell 10 = .ok (.imul, 1) := by decide +kernel
theorem dX7_viewCell_11 : decode cX7_viewCell 11 = .ok (.iadd, 1) := by decide +kernel
theorem dX7_viewCell_12 : decode cX7_viewCell 12 = .ok (.iload_n 2, 1) := by decide +kernel
theorem dX7_viewCell_13 : decode cX7_viewCell 13 = .ok (.iadd, 1) := by decide +kernel
theorem dX7_viewCell_14 : decode cX7_viewCell 14 = .ok (.ireturn, 1) := by decide +kernel
set_option maxRecDepth 20000 in
theorem ggX7_clearViews_X7_viewCell : GoodIn wsX7_clearViews wsX7_viewCell := goodIn_r _ [5] (by decide +kernel) (by decide +kernel)
set_option maxRecDepth 20000 in
theorem gX7_clearViews_X7_viewCell : GoodIn wsX7_clearViews (va_wsS RX7 51 yX7_viewCell wsX7_viewCell) := goodIn_app (goodIn_of _ (by decide +kernel)) ggX7_clearViews_X7_viewCell
theorem dX7_clearViews_0 : decode cX7_clearViews 0 = .ok (.iconst 0, 1) := by decide +kernel
theorem dX7_clearViews_1 : decode cX7_clearViews 1 = .ok (.istore_n 3, 1) := by decide +kernel
theorem dX7_clearViews_2 : decode cX7_clearViews 2 = .ok (.iload_n 3, 1) := by decide +kernel
theorem dX7_clearViews_3 : decode cX7_clearViews 3 = .ok (.iconst 3, 1) := by decide +kernel
theorem dX7_clearViews_4 : decode cX7_clearViews 4 = .ok (.if_icmp .ge 21, 3) := by decide +kernel
theorem dX7_clearViews_7 : decode cX7_clearViews 7 = .ok (.aload_n 0, 1) := by decide +kernel
theorem dX7_clearViews_8 : decode cX7_clearViews 8 = .ok (.getfield 7, 3) := by decide +kernel
theorem dX7_clearViews_11 : decode cX7_clearViews 11 = .ok (.iload_n 1, 1) := by decide +kernel
theorem dX7_clearViews_12 : decode cX7_clearViews 12 = .ok (.iload_n 2, 1) := by decide +kernel
theorem dX7_clearViews_13 : decode cX7_clearViews 13 = .ok (.iload_n 3, 1) := by decide +kernel
theorem dX7_clearViews_14 : decode cX7_clearViews 14 = .ok (.invokestatic 51, 3) := by decide +kernel
theorem dX7_clearViews_17 : decode cX7_clearViews 17 = .ok (.iconst (-1), 1) := by decide +kernel
theorem dX7_clearViews_18 : decode cX7_clearViews 18 = .ok (.iastore, 1) := by decide +kernel
theorem dX7_clearViews_19 : decode cX7_clearViews 19 = .ok (.iinc 3 1, 3) := by decide +kernel
theorem dX7_clearViews_22 : decode cX7_clearViews 22 = .ok (.goto (-20), 3) := by decide +kernel
theorem dX7_clearViews_25 : decode cX7_clearViews 25 = .ok (.return_, 1) := by decide +kernel
set_option maxRecDepth 20000 in
theorem ggX7_clearAllViews_X7_clearViews : GoodIn wsX7_clearAllViews wsX7_clearViews := goodIn_r _ [5, 6, 7, 8, 4, 9, 10, 11, 12, 13, 14, 15, 16, 17, 18, 19] (by decide +kernel) (by decide +kernel)
set_option maxRecDepth 20000 in
theorem gX7_clearAllViews_X7_clearViews : GoodIn wsX7_clearAllViews (wsV RX7 55 RX7 yX7_clearViews wsX7_clearViews) := goodIn_app (goodIn_of _ (by decide +kernel)) ggX7_clearAllViews_X7_clearViews
theorem dX7_clearAllViews_0 : decode cX7_clearAllViews 0 = .ok (.iconst 0, 1) := by decide +kernel
theorem dX7_clearAllViews_1 : decode cX7_clearAllViews 1 = .ok (.istore_n 2, 1) := by decide +kernel
theorem dX7_clearAllViews_2 : decode cX7_clearAllViews 2 = .ok (.iload_n 2, 1) := by decide +kernel
theorem dX7_clearAllViews_3 : decode cX7_clearAllViews 3 = .ok (.bipush 6, 2) := by decide +kernel
theorem dX7_clearAllViews_5 : decode cX7_clearAllViews 5 = .ok (.if_icmp .ge 15, 3) := by decide +kernel
theorem dX7_clearAllViews_8 : decode cX7_clearAllViews 8 = .ok (.aload_n 0, 1) := by decide +kernel
theorem dX7_clearAllViews_9 : decode cX7_clearAllViews 9 = .ok (.iload_n 1, 1) := by decide +kernel
theorem dX7_clearAllViews_10 : decode cX7_clearAllViews 10 = .ok (.iload_n 2, 1) := by decide +kernel
theorem dX7_clearAllViews_11 : decode cX7_clearAllViews 11 = .ok (.invokevirtual 55, 3) := by decide +kernel
theorem dX7_clearAllViews_14 : decode cX7_clearAllViews 14 = .ok (.iinc 2 1, 3) := by decide +kernel
theorem dX7_clearAllViews_17 : decode cX7_clearAllViews 17 = .ok (.goto (-15), 3) := by decide +kernel
theorem dX7_clearAllViews_20 : decode cX7_clearAllViews 20 = .ok (.return_, 1) := by decide +kernel
theorem dX7_messageAt_0 : decode cX7_messageAt 0 = .ok (.aload_n 0, 1) := by decide +kernel
theorem dX7_messageAt_1 : decode cX7_messageAt 1 = .ok (.getfield 7, 3) := by decide +kernel
theorem dX7_messageAt_4 : decode cX7_messageAt 4 = .ok (.sipush 276, 3) := by decide +kernel
theorem dX7_messageAt_7 : decode cX7_messageAt 7 = .ok (.aload_n 0, 1) := by decide +kernel
theorem dX7_messageAt_8 : decode cX7_messageAt 8 = .ok (.getfield 7, 3) := by decide +kernel
theorem dX7_messageAt_11 : decode cX7_messageAt 11 = .ok (.sipush 576, 3) := by decide +kernel
theorem dX7_messageAt_14 : decode cX7_messageAt 14 = .ok (.iaload, 1) := by decide +kernel
theorem dX7_messageAt_15 : decode cX7_messageAt 15 = .ok (.iload_n 1, 1) := by decide +kernel
theorem dX7_messageAt_16 : decode cX7_messageAt 16 = .ok (.iadd, 1) := by decide +kernel
theorem dX7_messageAt_17 : decode cX7_messageAt 17 = .ok (.sipush 300, 3) := by decide +kernel
theorem dX7_messageAt_20 : decode cX7_messageAt 20 = .ok (.irem, 1) := by decide +kernel
theorem dX7_messageAt_21 : decode cX7_messageAt 21 = .ok (.iadd, 1) := by decide +kernel
theorem dX7_messageAt_22 : decode cX7_messageAt 22 = .ok (.iaload, 1) := by decide +kernel
theorem dX7_messageAt_23 : decode cX7_messageAt 23 = .ok (.ireturn, 1) := by decide +kernel
theorem dX7_part_0 : decode cX7_part 0 = .ok (.iload_n 1, 1) := by decide +kernel
theorem dX7_part_1 : decode cX7_part 1 = .ok (.tableswitch 60 0 3 #[31, 36, 44, 52], 31) := by decide +kernel
theorem dX7_part_32 : decode cX7_part 32 = .ok (.iload_n 0, 1) := by decide +kernel
theorem dX7_part_33 : decode cX7_part 33 = .ok (.bipush 8, 2) := by decide +kernel
theorem dX7_part_35 : decode cX7_part 35 = .ok (.irem, 1) := by decide +kernel
theorem dX7_part_36 : decode cX7_part 36 = .ok (.ireturn, 1) := by decide +kernel
theorem dX7_part_37 : decode cX7_part 37 = .ok (.iload_n 0, 1) := by decide +kernel
theorem dX7_part_38 : decode cX7_part 38 = .ok (.bipush 8, 2) := by decide +kernel
theorem dX7_part_40 : decode cX7_part 40 = .ok (.idiv, 1) := by decide +kernel
theorem dX7_part_41 : decode cX7_part 41 = .ok (.bipush 8, 2) := by decide +kernel
theorem dX7_part_43 : decode cX7_part 43 = .ok (.irem, 1) := by decide +kernel
theorem dX7_part_44 : decode cX7_part 44 = .ok (.ireturn, 1) := by decide +kernel
theorem dX7_part_45 : decode cX7_part 45 = .ok (.iload_n 0, 1) := by decide +kernel
theorem dX7_part_46 : decode cX7_part 46 = .ok (.bipush 64, 2) := by decide +kernel
theorem dX7_part_48 : decode cX7_part 48 = .ok (.idiv, 1) := by decide +kernel
theorem dX7_part_49 : decode cX7_part 49 = .ok (.bipush 8, 2) := by decide +kernel
theorem dX7_part_51 : decode cX7_part 51 = .ok (.irem, 1) := by decide +kernel
theorem dX7_part_52 : decode cX7_part 52 = .ok (.ireturn, 1) := by decide +kernel
theorem dX7_part_53 : decode cX7_part 53 = .ok (.iload_n 0, 1) := by decide +kernel
theorem dX7_part_54 : decode cX7_part 54 = .ok (.sipush 512, 3) := by decide +kernel
theorem dX7_part_57 : decode cX7_part 57 = .ok (.idiv, 1) := by decide +kernel
theorem dX7_part_58 : decode cX7_part 58 = .ok (.iconst 4, 1) := by decide +kernel
theorem dX7_part_59 : decode cX7_part 59 = .ok (.irem, 1) := by decide +kernel
theorem dX7_part_60 : decode cX7_part 60 = .ok (.ireturn, 1) := by decide +kernel
theorem dX7_part_61 : decode cX7_part 61 = .ok (.iload_n 0, 1) := by decide +kernel
theorem dX7_part_62 : decode cX7_part 62 = .ok (.sipush 2048, 3) := by decide +kernel
theorem dX7_part_65 : decode cX7_part 65 = .ok (.idiv, 1) := by decide +kernel
theorem dX7_part_66 : decode cX7_part 66 = .ok (.ireturn, 1) := by decide +kernel
set_option maxRecDepth 20000 in
theorem ggX7_send_X7_apart : GoodIn wsX7_send wsX7_apart := goodIn_r _ [6, 1, 7, 8, 9, 10, 11, 12, 13, 14, 15, 16] (by decide +kernel) (by decide +kernel)
set_option maxRecDepth 20000 in
theorem gX7_send_X7_apart : GoodIn wsX7_send (wsV RX7 59 RX7 yX7_apart wsX7_apart) := goodIn_app (goodIn_of _ (by decide +kernel)) ggX7_send_X7_apart
theorem dX7_send_0 : decode cX7_send 0 = .ok (.aload_n 0, 1) := by decide +kernel
theorem dX7_send_1 : decode cX7_send 1 = .ok (.iload_n 2, 1) := by decide +kernel
theorem dX7_send_2 : decode cX7_send 2 = .ok (.iload_n 3, 1) := by decide +kernel
theorem dX7_send_3 : decode cX7_send 3 = .ok (.invokevirtual 59, 3) := by decide +kernel
theorem dX7_send_6 : decode cX7_send 6 = .ok (.ifCond .eq 4, 3) := by decide +kernel
theorem dX7_send_9 : decode cX7_send 9 = .ok (.return_, 1) := by decide +kernel
theorem dX7_send_10 : decode cX7_send 10 = .ok (.aload_n 0, 1) := by decide +kernel
theorem dX7_send_11 : decode cX7_send 11 = .ok (.getfield 7, 3) := by decide +kernel
theorem dX7_send_14 : decode cX7_send 14 = .ok (.sipush 578, 3) := by decide +kernel
theorem dX7_send_17 : decode cX7_send 17 = .ok (.dup2, 1) := by decide +kernel
theorem dX7_send_18 : decode cX7_send 18 = .ok (.iaload, 1) := by decide +kernel
theorem dX7_send_19 : decode cX7_send 19 = .ok (.iconst 1, 1) := by decide +kernel
theorem dX7_send_20 : decode cX7_send 20 = .ok (.iadd, 1) := by decide +kernel
theorem dX7_send_21 : decode cX7_send 21 = .ok (.iastore, 1) := by decide +kernel
theorem dX7_send_22 : decode cX7_send 22 = .ok (.aload_n 0, 1) := by decide +kernel
theorem dX7_send_23 : decode cX7_send 23 = .ok (.getfield 7, 3) := by decide +kernel
theorem dX7_send_26 : decode cX7_send 26 = .ok (.sipush 577, 3) := by decide +kernel
theorem dX7_send_29 : decode cX7_send 29 = .ok (.iaload, 1) := by decide +kernel
theorem dX7_send_30 : decode cX7_send 30 = .ok (.sipush 300, 3) := by decide +kernel
theorem dX7_send_33 : decode cX7_send 33 = .ok (.if_icmp .ne 16, 3) := by decide +kernel
theorem dX7_send_36 : decode cX7_send 36 = .ok (.aload_n 0, 1) := by decide +kernel
theorem dX7_send_37 : decode cX7_send 37 = .ok (.getfield 7, 3) := by decide +kernel
theorem dX7_send_40 : decode cX7_send 40 = .ok (.sipush 580, 3) := by decide +kernel
theorem dX7_send_43 : decode cX7_send 43 = .ok (.dup2, 1) := by decide +kernel
theorem dX7_send_44 : decode cX7_send 44 = .ok (.iaload, 1) := by decide +kernel
theorem dX7_send_45 : decode cX7_send 45 = .ok (.iconst 1, 1) := by decide +kernel
theorem dX7_send_46 : decode cX7_send 46 = .ok (.iadd, 1) := by decide +kernel
theorem dX7_send_47 : decode cX7_send 47 = .ok (.iastore, 1) := by decide +kernel
theorem dX7_send_48 : decode cX7_send 48 = .ok (.return_, 1) := by decide +kernel
theorem dX7_send_49 : decode cX7_send 49 = .ok (.aload_n 0, 1) := by decide +kernel
theorem dX7_send_50 : decode cX7_send 50 = .ok (.getfield 7, 3) := by decide +kernel
theorem dX7_send_53 : decode cX7_send 53 = .ok (.sipush 276, 3) := by decide +kernel
theorem dX7_send_56 : decode cX7_send 56 = .ok (.aload_n 0, 1) := by decide +kernel
theorem dX7_send_57 : decode cX7_send 57 = .ok (.getfield 7, 3) := by decide +kernel
theorem dX7_send_60 : decode cX7_send 60 = .ok (.sipush 576, 3) := by decide +kernel
theorem dX7_send_63 : decode cX7_send 63 = .ok (.iaload, 1) := by decide +kernel
theorem dX7_send_64 : decode cX7_send 64 = .ok (.aload_n 0, 1) := by decide +kernel
theorem dX7_send_65 : decode cX7_send 65 = .ok (.getfield 7, 3) := by decide +kernel
theorem dX7_send_68 : decode cX7_send 68 = .ok (.sipush 577, 3) := by decide +kernel
theorem dX7_send_71 : decode cX7_send 71 = .ok (.iaload, 1) := by decide +kernel
theorem dX7_send_72 : decode cX7_send 72 = .ok (.iadd, 1) := by decide +kernel
theorem dX7_send_73 : decode cX7_send 73 = .ok (.sipush 300, 3) := by decide +kernel
theorem dX7_send_76 : decode cX7_send 76 = .ok (.irem, 1) := by decide +kernel
theorem dX7_send_77 : decode cX7_send 77 = .ok (.iadd, 1) := by decide +kernel
theorem dX7_send_78 : decode cX7_send 78 = .ok (.iload_n 1, 1) := by decide +kernel
theorem dX7_send_79 : decode cX7_send 79 = .ok (.bipush 8, 2) := by decide +kernel
theorem dX7_send_81 : decode cX7_send 81 = .ok (.iload_n 2, 1) := by decide +kernel
theorem dX7_send_82 : decode cX7_send 82 = .ok (.imul, 1) := by decide +kernel
theorem dX7_send_83 : decode cX7_send 83 = .ok (.iadd, 1) := by decide +kernel
theorem dX7_send_84 : decode cX7_send 84 = .ok (.bipush 64, 2) := by decide +kernel
theorem dX7_send_86 : decode cX7_send 86 = .ok (.iload_n 3, 1) := by decide +kernel
theorem dX7_send_87 : decode cX7_send 87 = .ok (.imul, 1) := by decide +kernel
theorem dX7_send_88 : decode cX7_send 88 = .ok (.iadd, 1) := by decide +kernel
theorem dX7_send_89 : decode cX7_send 89 = .ok (.sipush 512, 3) := by decide +kernel
theorem dX7_send_92 : decode cX7_send 92 = .ok (.iload 4, 2) := by decide +kernel
theorem dX7_send_94 : decode cX7_send 94 = .ok (.imul, 1) := by decide +kernel
theorem dX7_send_95 : decode cX7_send 95 = .ok (.iadd, 1) := by decide +kernel
theorem dX7_send_96 : decode cX7_send 96 = .ok (.sipush 2048, 3) := by decide +kernel
theorem dX7_send_99 : decode cX7_send 99 = .ok (.iload 5, 2) := by decide +kernel
theorem dX7_send_101 : decode cX7_send 101 = .ok (.imul, 1) := by decide +kernel
theorem dX7_send_102 : decode cX7_send 102 = .ok (.iadd, 1) := by decide +kernel
theorem dX7_send_103 : decode cX7_send 103 = .ok (.iastore, 1) := by decide +kernel
theorem dX7_send_104 : decode cX7_send 104 = .ok (.aload_n 0, 1) := by decide +kernel
theorem dX7_send_105 : decode cX7_send 105 = .ok (.getfield 7, 3) := by decide +kernel
theorem dX7_send_108 : decode cX7_send 108 = .ok (.sipush 577, 3) := by decide +kernel
theorem dX7_send_111 : decode cX7_send 111 = .ok (.dup2, 1) := by decide +kernel
theorem dX7_send_112 : decode cX7_send 112 = .ok (.iaload, 1) := by decide +kernel
theorem dX7_send_113 : decode cX7_send 113 = .ok (.iconst 1, 1) := by decide +kernel
theorem dX7_send_114 : decode cX7_send 114 = .ok (.iadd, 1) := by decide +kernel
theorem dX7_send_115 : decode cX7_send 115 = .ok (.iastore, 1) := by decide +kernel
theorem dX7_send_116 : decode cX7_send 116 = .ok (.return_, 1) := by decide +kernel
set_option maxRecDepth 20000 in
theorem ggX7_shows_X7_isOn : GoodIn wsX7_shows wsX7_isOn := goodIn_r _ [6, 1, 7, 8, 5, 9, 18, 19, 20, 21, 22, 23, 24, 25, 26, 27] (by decide +kernel) (by decide +kernel)
set_option maxRecDepth 20000 in
theorem gX7_shows_X7_isOn : GoodIn wsX7_shows (wsV RX7 63 RX7 yX7_isOn wsX7_isOn) := goodIn_app (goodIn_of _ (by decide +kernel)) ggX7_shows_X7_isOn
set_option maxRecDepth 20000 in
theorem ggX7_shows_X7_seatCell : GoodIn wsX7_shows wsX7_seatCell := goodIn_r _ [9] (by decide +kernel) (by decide +kernel)
set_option maxRecDepth 20000 in
theorem gX7_shows_X7_seatCell : GoodIn wsX7_shows (va_wsS RX7 44 yX7_seatCell wsX7_seatCell) := goodIn_app (goodIn_of _ (by decide +kernel)) ggX7_shows_X7_seatCell
set_option maxRecDepth 20000 in
theorem ggX7_shows_X7_send : GoodIn wsX7_shows wsX7_send := goodIn_r _ [13, 1, 14, 15, 16, 5, 17, 18, 19, 20, 21, 22, 23, 24, 25, 26, 27] (by decide +kernel) (by decide +kernel)
set_option maxRecDepth 20000 in
theorem gX7_shows_X7_send : GoodIn wsX7_shows (wsV RX7 66 RX7 yX7_send wsX7_send) := goodIn_app (goodIn_of _ (by decide +kernel)) ggX7_shows_X7_send
theorem dX7_shows_0 : decode cX7_shows 0 = .ok (.iconst 0, 1) := by decide +kernel
theorem dX7_shows_1 : decode cX7_shows 1 = .ok (.istore_n 3, 1) := by decide +kernel
theorem dX7_shows_2 : decode cX7_shows 2 = .ok (.iload_n 3, 1) := by decide +kernel
theorem dX7_shows_3 : decode cX7_shows 3 = .ok (.iconst 3, 1) := by decide +kernel
theorem dX7_shows_4 : decode cX7_shows 4 = .ok (.if_icmp .ge 38, 3) := by decide +kernel
theorem dX7_shows_7 : decode cX7_shows 7 = .ok (.aload_n 0, 1) := by decide +kernel
theorem dX7_shows_8 : decode cX7_shows 8 = .ok (.iload_n 1, 1) := by decide +kernel
theorem dX7_shows_9 : decode cX7_shows 9 = .ok (.iload_n 3, 1) := by decide +kernel
theorem dX7_shows_10 : decode cX7_shows 10 = .ok (.invokevirtual 63, 3) := by decide +kernel
theorem dX7_shows_13 : decode cX7_shows 13 = .ok (.ifCond .eq 23, 3) := by decide +kernel
theorem dX7_shows_16 : decode cX7_shows 16 = .ok (.aload_n 0, 1) := by decide +kernel
theorem dX7_shows_17 : decode cX7_shows 17 = .ok (.iconst 4, 1) := by decide +kernel
theorem dX7_shows_18 : decode cX7_shows 18 = .ok (.iload_n 1, 1) := by decide +kernel
theorem dX7_shows_19 : decode cX7_shows 19 = .ok (.iload_n 2, 1) := by decide +kernel
theorem dX7_shows_20 : decode cX7_shows 20 = .ok (.iload_n 3, 1) := by decide +kernel
theorem dX7_shows_21 : decode cX7_shows 21 = .ok (.aload_n 0, 1) := by decide +kernel
theorem dX7_shows_22 : decode cX7_shows 22 = .ok (.getfield 7, 3) := by decide +kernel
theorem dX7_shows_25 : decode cX7_shows 25 = .ok (.iload_n 1, 1) := by decide +kernel
theorem dX7_shows_26 : decode cX7_shows 26 = .ok (.iload_n 3, 1) := by decide +kernel
theorem dX7_shows_27 : decode cX7_shows 27 = .ok (.invokestatic 44, 3) := by decide +kernel
theorem dX7_shows_30 : decode cX7_shows 30 = .ok (.iconst 2, 1) := by decide +kernel
theorem dX7_shows_31 : decode cX7_shows 31 = .ok (.iadd, 1) := by decide +kernel
theorem dX7_shows_32 : decode cX7_shows 32 = .ok (.iaload, 1) := by decide +kernel
theorem dX7_shows_33 : decode cX7_shows 33 = .ok (.invokevirtual 66, 3) := by decide +kernel
theorem dX7_shows_36 : decode cX7_shows 36 = .ok (.iinc 3 1, 3) := by decide +kernel
theorem dX7_shows_39 : decode cX7_shows 39 = .ok (.goto (-37), 3) := by decide +kernel
theorem dX7_shows_42 : decode cX7_shows 42 = .ok (.return_, 1) := by decide +kernel
set_option maxRecDepth 20000 in
theorem ggX7_hides_X7_isOn : GoodIn wsX7_hides wsX7_isOn := goodIn_r _ [5, 6, 7, 8, 4, 9, 18, 19, 20, 21, 22, 23, 24, 25, 26, 27] (by decide +kernel) (by decide +kernel)
set_option maxRecDepth 20000 in
theorem gX7_hides_X7_isOn : GoodIn wsX7_hides (wsV RX7 63 RX7 yX7_isOn wsX7_isOn) := goodIn_app (goodIn_of _ (by decide +kernel)) ggX7_hides_X7_isOn
set_option maxRecDepth 20000 in
theorem ggX7_hides_X7_send : GoodIn wsX7_hides wsX7_send := goodIn_r _ [13, 6, 14, 15, 16, 4, 17, 18, 19, 20, 21, 22, 23, 24, 25, 26, 27] (by decide +kernel) (by decide +kernel)
set_option maxRecDepth 20000 in
theorem gX7_hides_X7_send : GoodIn wsX7_hides (wsV RX7 66 RX7 yX7_send wsX7_send) := goodIn_app (goodIn_of _ (by decide +kernel)) ggX7_hides_X7_send
theorem dX7_hides_0 : decode cX7_hides 0 = .ok (.iconst 0, 1) := by decide +kernel
theorem dX7_hides_1 : decode cX7_hides 1 = .ok (.istore_n 3, 1) := by decide +kernel
theorem dX7_hides_2 : decode cX7_hides 2 = .ok (.iload_n 3, 1) := by decide +kernel
theorem dX7_hides_3 : decode cX7_hides 3 = .ok (.iconst 3, 1) := by decide +kernel
theorem dX7_hides_4 : decode cX7_hides 4 = .ok (.if_icmp .ge 27, 3) := by decide +kernel
theorem dX7_hides_7 : decode cX7_hides 7 = .ok (.aload_n 0, 1) := by decide +kernel
theorem dX7_hides_8 : decode cX7_hides 8 = .ok (.iload_n 1, 1) := by decide +kernel
theorem dX7_hides_9 : decode cX7_hides 9 = .ok (.iload_n 3, 1) := by decide +kernel
theorem dX7_hides_10 : decode cX7_hides 10 = .ok (.invokevirtual 63, 3) := by decide +kernel
theorem dX7_hides_13 : decode cX7_hides 13 = .ok (.ifCond .eq 12, 3) := by decide +kernel
theorem dX7_hides_16 : decode cX7_hides 16 = .ok (.aload_n 0, 1) := by decide +kernel
theorem dX7_hides_17 : decode cX7_hides 17 = .ok (.iconst 5, 1) := by decide +kernel
theorem dX7_hides_18 : decode cX7_hides 18 = .ok (.iload_n 1, 1) := by decide +kernel
theorem dX7_hides_19 : decode cX7_hides 19 = .ok (.iload_n 2, 1) := by decide +kernel
theorem dX7_hides_20 : decode cX7_hides 20 = .ok (.iload_n 3, 1) := by decide +kernel
theorem dX7_hides_21 : decode cX7_hides 21 = .ok (.iconst 0, 1) := by decide +kernel
theorem dX7_hides_22 : decode cX7_hides 22 = .ok (.invokevirtual 66, 3) := by decide +kernel
theorem dX7_hides_25 : decode cX7_hides 25 = .ok (.iinc 3 1, 3) := by decide +kernel
theorem dX7_hides_28 : decode cX7_hides 28 = .ok (.goto (-26), 3) := by decide +kernel
theorem dX7_hides_31 : decode cX7_hides 31 = .ok (.return_, 1) := by decide +kernel
set_option maxRecDepth 20000 in
theorem ggX7_arrives_X7_part : GoodIn wsX7_arrives wsX7_part := goodIn_r _ [5] (by decide +kernel) (by decide +kernel)
set_option maxRecDepth 20000 in
theorem gX7_arrives_X7_part : GoodIn wsX7_arrives (va_wsS RX7 70 yX7_part wsX7_part) := goodIn_app (goodIn_of _ (by decide +kernel)) ggX7_arrives_X7_part
set_option maxRecDepth 20000 in
theorem ggX7_arrives_X7_state : GoodIn wsX7_arrives wsX7_state := goodIn_r _ [9, 1, 52, 53, 54, 55, 56, 57, 58, 59, 60, 61] (by decide +kernel) (by decide +kernel)
set_option maxRecDepth 20000 in
theorem gX7_arrives_X7_state : GoodIn wsX7_arrives (wsV RX7 48 RX7 yX7_state wsX7_state) := goodIn_app (goodIn_of _ (by decide +kernel)) ggX7_arrives_X7_state
set_option maxRecDepth 20000 in
theorem ggX7_arrives_X7_has : GoodIn wsX7_arrives wsX7_has := goodIn_r _ [13, 6, 7, 8, 4, 9, 1, 52, 53, 54, 55, 56, 57, 58, 59, 60, 61] (by decide +kernel) (by decide +kernel)
set_option maxRecDepth 20000 in
theorem gX7_arrives_X7_has : GoodIn wsX7_arrives (wsV RX7 73 RX7 yX7_has wsX7_has) := goodIn_app (goodIn_of _ (by decide +kernel)) ggX7_arrives_X7_has
set_option maxRecDepth 20000 in
theorem ggX7_arrives_X7_apart : GoodIn wsX7_arrives wsX7_apart := goodIn_r _ [17, 1, 52, 53, 54, 55, 56, 57, 58, 59, 60, 61] (by decide +kernel) (by decide +kernel)
set_option maxRecDepth 20000 in
theorem gX7_arrives_X7_apart : GoodIn wsX7_arrives (wsV RX7 59 RX7 yX7_apart wsX7_apart) := goodIn_app (goodIn_of _ (by decide +kernel)) ggX7_arrives_X7_apart
set_option maxRecDepth 20000 in
theorem ggX7_arrives_X7_send : GoodIn wsX7_arrives wsX7_send := goodIn_r _ [21, 1, 14, 15, 16, 4, 17, 52, 53, 54, 55, 56, 57, 58, 59, 60, 61] (by decide +kernel) (by decide +kernel)
set_option maxRecDepth 20000 in
theorem gX7_arrives_X7_send : GoodIn wsX7_arrives (wsV RX7 66 RX7 yX7_send wsX7_send) := goodIn_app (goodIn_of _ (by decide +kernel)) ggX7_arrives_X7_send
set_option maxRecDepth 20000 in
theorem ggX7_arrives_X7_shows : GoodIn wsX7_arrives wsX7_shows := goodIn_r _ [25, 1, 26, 27, 28, 4, 29, 30, 31, 32, 18, 19, 20, 21, 14, 15, 16, 17, 52, 53, 54, 55, 56, 57, 58, 59, 60, 61] (by decide +kernel) (by decide +kernel)
set_option maxRecDepth 20000 in
theorem gX7_arrives_X7_shows : GoodIn wsX7_arrives (wsV RX7 76 RX7 yX7_shows wsX7_shows) := goodIn_app (goodIn_of _ (by decide +kernel)) ggX7_arrives_X7_shows
set_option maxRecDepth 20000 in
theorem ggX7_arrives_X7_become : GoodIn wsX7_arrives wsX7_become := goodIn_r _ [36, 1, 6, 7, 8, 4, 9, 52, 53, 54, 55, 56, 57, 58, 59, 60, 61] (by decide +kernel) (by decide +kernel)
set_option maxRecDepth 20000 in
theorem gX7_arrives_X7_become : GoodIn wsX7_arrives (wsV RX7 79 RX7 yX7_become wsX7_become) := goodIn_app (goodIn_of _ (by decide +kernel)) ggX7_arrives_X7_become
set_option maxRecDepth 20000 in
theorem ggX7_arrives_X7_hides : GoodIn wsX7_arrives wsX7_hides := goodIn_r _ [40, 26, 27, 28, 4, 29, 1, 30, 31, 32, 18, 19, 20, 21, 14, 15, 16, 17, 52, 53, 54, 55, 56, 57, 58, 59, 60, 61] (by decide +kernel) (by decide +kernel)
set_option maxRecDepth 20000 in
theorem gX7_arrives_X7_hides : GoodIn wsX7_arrives (wsV RX7 83 RX7 yX7_hides wsX7_hides) := goodIn_app (goodIn_of _ (by decide +kernel)) ggX7_arrives_X7_hides
set_option maxRecDepth 20000 in
theorem ggX7_arrives_X7_clearViews : GoodIn wsX7_arrives wsX7_clearViews := goodIn_r _ [44, 1, 45, 46, 4, 47, 52, 53, 54, 55, 56, 57, 58, 59, 60, 61] (by decide +kernel) (by decide +kernel)
set_option maxRecDepth 20000 in
theorem gX7_arrives_X7_clearViews : GoodIn wsX7_arrives (wsV RX7 55 RX7 yX7_clearViews wsX7_clearViews) := goodIn_app (goodIn_of _ (by decide +kernel)) ggX7_arrives_X7_clearViews
set_option maxRecDepth 20000 in
theorem ggX7_arrives_X7_seatsOn : GoodIn wsX7_arrives wsX7_seatsOn := goodIn_r _ [51, 1, 30, 31, 4, 32, 52, 53, 54, 55, 56, 57, 58, 59, 60, 61] (by decide +kernel) (by decide +kernel)
set_option maxRecDepth 20000 in
theorem gX7_arrives_X7_seatsOn : GoodIn wsX7_arrives (wsV RX7 86 RX7 yX7_seatsOn wsX7_seatsOn) := goodIn_app (goodIn_of _ (by decide +kernel)) ggX7_arrives_X7_seatsOn
set_option maxRecDepth 20000 in
theorem ggX7_arrives_X7_viewCell : GoodIn wsX7_arrives wsX7_viewCell := goodIn_r _ [47] (by decide +kernel) (by decide +kernel)
set_option maxRecDepth 20000 in
theorem gX7_arrives_X7_viewCell : GoodIn wsX7_arrives (va_wsS RX7 51 yX7_viewCell wsX7_viewCell) := goodIn_app (goodIn_of _ (by decide +kernel)) ggX7_arrives_X7_viewCell
theorem dX7_arrives_0 : decode cX7_arrives 0 = .ok (.iload_n 1, 1) := by decide +kernel
theorem dX7_arrives_1 : decode cX7_arrives 1 = .ok (.iconst 1, 1) := by decide +kernel
theorem dX7_arrives_2 : decode cX7_arrives 2 = .ok (.invokestatic 70, 3) := by decide +kernel
theorem dX7_arrives_5 : decode cX7_arrives 5 = .ok (.istore_n 2, 1) := by decide +kernel
theorem dX7_arrives_6 : decode cX7_arrives 6 = .ok (.iload_n 1, 1) := by decide +kernel
theorem dX7_arrives_7 : decode cX7_arrives 7 = .ok (.iconst 2, 1) := by decide +kernel
theorem dX7_arrives_8 : decode cX7_arrives 8 = .ok (.invokestatic 70, 3) := by decide +kernel
theorem dX7_arrives_11 : decode cX7_arrives 11 = .ok (.istore_n 3, 1) := by decide +kernel
theorem dX7_arrives_12 : decode cX7_arrives 12 = .ok (.aload_n 0, 1) := by decide +kernel
theorem dX7_arrives_13 : decode cX7_arrives 13 = .ok (.iload_n 3, 1) := by decide +kernel
theorem dX7_arrives_14 : decode cX7_arrives 14 = .ok (.iload_n 2, 1) := by decide +kernel
theorem dX7_arrives_15 : decode cX7_arrives 15 = .ok (.invokevirtual 48, 3) := by decide +kernel
theorem dX7_arrives_18 : decode cX7_arrives 18 = .ok (.istore 4, 2) := by decide +kernel
theorem dX7_arrives_20 : decode cX7_arrives 20 = .ok (.aload_n 0, 1) := by decide +kernel
theorem dX7_arrives_21 : decode cX7_arrives 21 = .ok (.iload_n 3, 1) := by decide +kernel
theorem dX7_arrives_22 : decode cX7_arrives 22 = .ok (.iload_n 2, 1) := by decide +kernel
theorem dX7_arrives_23 : decode cX7_arrives 23 = .ok (.iconst 2, 1) := by decide +kernel
theorem dX7_arrives_24 : decode cX7_arrives 24 = .ok (.invokevirtual 73, 3) := by decide +kernel
theorem dX7_arrives_27 : decode cX7_arrives 27 = .ok (.istore 5, 2) := by decide +kernel
theorem dX7_arrives_29 : decode cX7_arrives 29 = .ok (.aload_n 0, 1) := by decide +kernel
theorem dX7_arrives_30 : decode cX7_arrives 30 = .ok (.iload_n 2, 1) := by decide +kernel
theorem dX7_arrives_31 : decode cX7_arrives 31 = .ok (.iload_n 3, 1) := by decide +kernel
theorem dX7_arrives_32 : decode cX7_arrives 32 = .ok (.invokevirtual 59, 3) := by decide +kernel
theorem dX7_arrives_35 : decode cX7_arrives 35 = .ok (.ifCond .eq 4, 3) := by decide +kernel
theorem dX7_arrives_38 : decode cX7_arrives 38 = .ok (.return_, 1) := by decide +kernel
theorem dX7_arrives_39 : decode cX7_arrives 39 = .ok (.iload_n 1, 1) := by decide +kernel
theorem dX7_arrives_40 : decode cX7_arrives 40 = .ok (.iconst 0, 1) := by decide +kernel
theorem dX7_arrives_41 : decode cX7_arrives 41 = .ok (.invokestatic 70, 3) := by decide +kernel
theorem dX7_arrives_44 : decode cX7_arrives 44 = .ok (.tableswitch 214 0 5 #[40, 77, 103, 134, 154, 195], 40) := by decide +kernel
theorem dX7_arrives_84 : decode cX7_arrives 84 = .ok (.iload 5, 2) := by decide +kernel
theorem dX7_arrives_86 : decode cX7_arrives 86 = .ok (.ifCond .eq 21, 3) := by decide +kernel
theorem dX7_arrives_89 : decode cX7_arrives 89 = .ok (.aload_n 0, 1) := by decide +kernel
theorem dX7_arrives_90 : decode cX7_arrives 90 = .ok (.iconst 1, 1) := by decide +kernel
theorem dX7_arrives_91 : decode cX7_arrives 91 = .ok (.iload_n 3, 1) := by decide +kernel
theorem dX7_arrives_92 : decode cX7_arrives 92 = .ok (.iload_n 2, 1) := by decide +kernel
theorem dX7_arrives_93 : decode cX7_arrives 93 = .ok (.iconst 0, 1) := by decide +kernel
theorem dX7_arrives_94 : decode cX7_arrives 94 = .ok (.iconst 0, 1) := by decide +kernel
theorem dX7_arrives_95 : decode cX7_arrives 95 = .ok (.invokevirtual 66, 3) := by decide +kernel
theorem dX7_arrives_98 : decode cX7_arrives 98 = .ok (.aload_n 0, 1) := by decide +kernel
theorem dX7_arrives_99 : decode cX7_arrives 99 = .ok (.iload_n 3, 1) := by decide +kernel
theorem dX7_arrives_100 : decode cX7_arrives 100 = .ok (.iload_n 2, 1) := by decide +kernel
theorem dX7_arrives_101 : decode cX7_arrives 101 = .ok (.invokevirtual 76, 3) := by decide +kernel
theorem dX7_arrives_104 : decode cX7_arrives 104 = .ok (.goto 177, 3) := by decide +kernel
theorem dX7_arrives_107 : decode cX7_arrives 107 = .ok (.aload_n 0, 1) := by decide +kernel
theorem dX7_arrives_108 : decode cX7_arrives 108 = .ok (.iload_n 3, 1) := by decide +kernel
theorem dX7_arrives_109 : decode cX7_arrives 109 = .ok (.iload_n 2, 1) := by decide +kernel
theorem dX7_arrives_110 : decode cX7_arrives 110 = .ok (.iload 4, 2) := by decide +kernel
theorem dX7_arrives_112 : decode cX7_arrives 112 = .ok (.bipush 8, 2) := by decide +kernel
theorem dX7_arrives_114 : decode cX7_arrives 114 = .ok (.ior, 1) := by decide +kernel
theorem dX7_arrives_115 : decode cX7_arrives 115 = .ok (.invokevirtual 79, 3) := by decide +kernel
theorem dX7_arrives_118 : decode cX7_arrives 118 = .ok (.goto 163, 3) := by decide +kernel
theorem dX7_arrives_121 : decode cX7_arrives 121 = .ok (.aload_n 0, 1) := by decide +kernel
theorem dX7_arrives_122 : decode cX7_arrives 122 = .ok (.iload_n 3, 1) := by decide +kernel
theorem dX7_arrives_123 : decode cX7_arrives 123 = .ok (.iload_n 2, 1) := by decide +kernel
theorem dX7_arrives_124 : decode cX7_arrives 124 = .ok (.iconst 4, 1) := by decide +kernel
theorem dX7_arrives_125 : decode cX7_arrives 125 = .ok (.invokevirtual 73, 3) := by decide +kernel
theorem dX7_arrives_128 : decode cX7_arrives 128 = .ok (.ifCond .eq 153, 3) := by decide +kernel
theorem dX7_arrives_131 : decode cX7_arrives 131 = .ok (.aload_n 0, 1) := by decide +kernel
theorem dX7_arrives_132 : decode cX7_arrives 132 = .ok (.iload_n 3, 1) := by decide +kernel
theorem dX7_arrives_133 : decode cX7_arrives 133 = .ok (.iload_n 2, 1) := by decide +kernel
theorem dX7_arrives_134 : decode cX7_arrives 134 = .ok (.iload 4, 2) := by decide +kernel
theorem dX7_arrives_136 : decode cX7_arrives 136 = .ok (.bipush (-5), 2) := by decide +kernel
theorem dX7_arrives_138 : decode cX7_arrives 138 = .ok (.iand, 1) := by decide +kernel
theorem dX7_arrives_139 : decode cX7_arrives 139 = .ok (.iconst 1, 1) := by decide +kernel
theorem dX7_arrives_140 : decode cX7_arrives 140 = .ok (.ior, 1) := by decide +kernel
theorem dX7_arrives_141 : decode cX7_arrives 141 = .ok (.invokevirtual 79, 3) := by decide +kernel
theorem dX7_arrives_144 : decode cX7_arrives 144 = .ok (.goto 137, 3) := by decide +kernel
theorem dX7_arrives_147 : decode cX7_arrives 147 = .ok (.aload_n 0, 1) := by decide +kernel
theorem dX7_arrives_148 : decode cX7_arrives 148 = .ok (.iload_n 3, 1) := by decide +kernel
theorem dX7_arrives_149 : decode cX7_arrives 149 = .ok (.iload_n 2, 1) := by decide +kernel
theorem dX7_arrives_150 : decode cX7_arrives 150 = .ok (.bipush 10, 2) := by decide +kernel
theorem dX7_arrives_152 : decode cX7_arrives 152 = .ok (.invokevirtual 73, 3) := by decide +kernel
theorem dX7_arrives_155 : decode cX7_arrives 155 = .ok (.ifCond .eq 126, 3) := by decide +kernel
theorem dX7_arrives_158 : decode cX7_arrives 158 = .ok (.aload_n 0, 1) := by decide +kernel
theorem dX7_arrives_159 : decode cX7_arrives 159 = .ok (.iload_n 3, 1) := by decide +kernel
theorem dX7_arrives_160 : decode cX7_arrives 160 = .ok (.iload_n 2, 1) := by decide +kernel
theorem dX7_arrives_161 : decode cX7_arrives 161 = .ok (.iload 4, 2) := by decide +kernel
theorem dX7_arrives_163 : decode cX7_arrives 163 = .ok (.bipush (-11), 2) := by decide +kernel
theorem dX7_arrives_165 : decode cX7_arrives 165 = .ok (.iand, 1) := by decide +kernel
theorem dX7_arrives_166 : decode cX7_arrives 166 = .ok (.invokevirtual 79, 3) := by decide +kernel
theorem dX7_arrives_169 : decode cX7_arrives 169 = .ok (.aload_n 0, 1) := by decide +kernel
theorem dX7_arrives_170 : decode cX7_arrives 170 = .ok (.iload_n 3, 1) := by decide +kernel
theorem dX7_arrives_171 : decode cX7_arrives 171 = .ok (.iload_n 2, 1) := by decide +kernel
theorem dX7_arrives_172 : decode cX7_arrives 172 = .ok (.invokevirtual 83, 3) := by decide +kernel
theorem dX7_arrives_175 : decode cX7_arrives 175 = .ok (.goto 106, 3) := by decide +kernel
theorem dX7_arrives_178 : decode cX7_arrives 178 = .ok (.aload_n 0, 1) := by decide +kernel
theorem dX7_arrives_179 : decode cX7_arrives 179 = .ok (.iload_n 3, 1) := by decide +kernel
theorem dX7_arrives_180 : decode cX7_arrives 180 = .ok (.iload_n 2, 1) := by decide +kernel
theorem dX7_arrives_181 : decode cX7_arrives 181 = .ok (.iload 4, 2) := by decide +kernel
theorem dX7_arrives_183 : decode cX7_arrives 183 = .ok (.bipush (-6), 2) := by decide +kernel
theorem dX7_arrives_185 : decode cX7_arrives 185 = .ok (.iand, 1) := by decide +kernel
theorem dX7_arrives_186 : decode cX7_arrives 186 = .ok (.invokevirtual 79, 3) := by decide +kernel
theorem dX7_arrives_189 : decode cX7_arrives 189 = .ok (.aload_n 0, 1) := by decide +kernel
theorem dX7_arrives_190 : decode cX7_arrives 190 = .ok (.iload_n 3, 1) := by decide +kernel
theorem dX7_arrives_191 : decode cX7_arrives 191 = .ok (.iload_n 2, 1) := by decide +kernel
theorem dX7_arrives_192 : decode cX7_arrives 192 = .ok (.invokevirtual 55, 3) := by decide +kernel
theorem dX7_arrives_195 : decode cX7_arrives 195 = .ok (.goto 86, 3) := by decide +kernel
theorem dX7_arrives_198 : decode cX7_arrives 198 = .ok (.aload_n 0, 1) := by decide +kernel
theorem dX7_arrives_199 : decode cX7_arrives 199 = .ok (.iload_n 3, 1) := by decide +kernel
theorem dX7_arrives_200 : decode cX7_arrives 200 = .ok (.iload_n 2, 1) := by decide +kernel
theorem dX7_arrives_201 : decode cX7_arrives 201 = .ok (.iconst 1, 1) := by decide +kernel
theorem dX7_arrives_202 : decode cX7_arrives 202 = .ok (.invokevirtual 73, 3) := by decide +kernel
theorem dX7_arrives_205 : decode cX7_arrives 205 = .ok (.ifCond .eq 76, 3) := by decide +kernel
theorem dX7_arrives_208 : decode cX7_arrives 208 = .ok (.aload_n 0, 1) := by decide +kernel
theorem dX7_arrives_209 : decode cX7_arrives 209 = .ok (.iload_n 3, 1) := by decide +kernel
theorem dX7_arrives_210 : decode cX7_arrives 210 = .ok (.invokevirtual 86, 3) := by decide +kernel
theorem dX7_arrives_213 : decode cX7_arrives 213 = .ok (.ifCond .le 68, 3) := by decide +kernel
theorem dX7_arrives_216 : decode cX7_arrives 216 = .ok (.aload_n 0, 1) := by decide +kernel
theorem dX7_arrives_217 : decode cX7_arrives 217 = .ok (.getfield 7, 3) := by decide +kernel
theorem dX7_arrives_220 : decode cX7_arrives 220 = .ok (.iload_n 3, 1) := by decide +kernel
theorem dX7_arrives_221 : decode cX7_arrives 221 = .ok (.iload_n 2, 1) := by decide +kernel
theorem dX7_arrives_222 : decode cX7_arrives 222 = .ok (.iload_n 1, 1) := by decide +kernel
theorem dX7_arrives_223 : decode cX7_arrives 223 = .ok (.iconst 3, 1) := by decide +kernel
theorem dX7_arrives_224 : decode cX7_arrives 224 = .ok (.invokestatic 70, 3) := by decide +kernel
theorem dX7_arrives_227 : decode cX7_arrives 227 = .ok (.invokestatic 51, 3) := by decide +kernel
theorem dX7_arrives_230 : decode cX7_arrives 230 = .ok (.iload_n 1, 1) := by decide +kernel
theorem dX7_arrives_231 : decode cX7_arrives 231 = .ok (.iconst 4, 1) := by decide +kernel
theorem dX7_arrives_232 : decode cX7_arrives 232 = .ok (.invokestatic 70, 3) := by decide +kernel
theorem dX7_arrives_235 : decode cX7_arrives 235 = .ok (.iastore, 1) := by decide +kernel
theorem dX7_arrives_236 : decode cX7_arrives 236 = .ok (.goto 45, 3) := by decide +kernel
theorem dX7_arrives_239 : decode cX7_arrives 239 = .ok (.aload_n 0, 1) := by decide +kernel
theorem dX7_arrives_240 : decode cX7_arrives 240 = .ok (.getfield 7, 3) := by decide +kernel
theorem dX7_arrives_243 : decode cX7_arrives 243 = .ok (.iload_n 3, 1) := by decide +kernel
theorem dX7_arrives_244 : decode cX7_arrives 244 = .ok (.iload_n 2, 1) := by decide +kernel
theorem dX7_arrives_245 : decode cX7_arrives 245 = .ok (.iload_n 1, 1) := by decide +kernel
theorem dX7_arrives_246 : decode cX7_arrives 246 = .ok (.iconst 3, 1) := by decide +kernel
theorem dX7_arrives_247 : decode cX7_arrives 247 = .ok (.invokestatic 70, 3) := by decide +kernel
theorem dX7_arrives_250 : decode cX7_arrives 250 = .ok (.invokestatic 51, 3) := by decide +kernel
theorem dX7_arrives_253 : decode cX7_arrives 253 = .ok (.iconst (-1), 1) := by decide +kernel
theorem dX7_arrives_254 : decode cX7_arrives 254 = .ok (.iastore, 1) := by decide +kernel
theorem dX7_arrives_255 : decode cX7_arrives 255 = .ok (.goto 26, 3) := by decide +kernel
theorem dX7_arrives_258 : decode cX7_arrives 258 = .ok (.iload 5, 2) := by decide +kernel
theorem dX7_arrives_260 : decode cX7_arrives 260 = .ok (.ifCond .eq 12, 3) := by decide +kernel
theorem dX7_arrives_263 : decode cX7_arrives 263 = .ok (.aload_n 0, 1) := by decide +kernel
theorem dX7_arrives_264 : decode cX7_arrives 264 = .ok (.iload_n 3, 1) := by decide +kernel
theorem dX7_arrives_265 : decode cX7_arrives 265 = .ok (.iload_n 2, 1) := by decide +kernel
theorem dX7_arrives_266 : decode cX7_arrives 266 = .ok (.invokevirtual 76, 3) := by decide +kernel
theorem dX7_arrives_269 : decode cX7_arrives 269 = .ok (.goto 12, 3) := by decide +kernel
theorem dX7_arrives_272 : decode cX7_arrives 272 = .ok (.aload_n 0, 1) := by decide +kernel
theorem dX7_arrives_273 : decode cX7_arrives 273 = .ok (.iconst 3, 1) := by decide +kernel
theorem dX7_arrives_274 : decode cX7_arrives 274 = .ok (.iload_n 3, 1) := by decide +kernel
theorem dX7_arrives_275 : decode cX7_arrives 275 = .ok (.iload_n 2, 1) := by decide +kernel
theorem dX7_arrives_276 : decode cX7_arrives 276 = .ok (.iconst 0, 1) := by decide +kernel
theorem dX7_arrives_277 : decode cX7_arrives 277 = .ok (.iconst 0, 1) := by decide +kernel
theorem dX7_arrives_278 : decode cX7_arrives 278 = .ok (.invokevirtual 66, 3) := by decide +kernel
theorem dX7_arrives_281 : decode cX7_arrives 281 = .ok (.return_, 1) := by decide +kernel
set_option maxRecDepth 20000 in
theorem ggX7_delivers_X7_messageAt : GoodIn wsX7_delivers wsX7_messageAt := goodIn_r _ [6, 1, 60, 61, 62, 63, 64, 65, 66, 67, 68, 69] (by decide +kernel) (by decide +kernel)
set_option maxRecDepth 20000 in
theorem gX7_delivers_X7_messageAt : GoodIn wsX7_delivers (wsV RX7 90 RX7 yX7_messageAt wsX7_messageAt) := goodIn_app (goodIn_of _ (by decide +kernel)) ggX7_delivers_X7_messageAt
set_option maxRecDepth 20000 in
theorem ggX7_delivers_X7_arrives : GoodIn wsX7_delivers wsX7_arrives := goodIn_r _ [10, 1, 11, 12, 5, 13, 14, 15, 16, 17, 18, 19, 20, 21, 22, 23, 24, 25, 26, 27, 28, 29, 30, 31, 32, 33, 34, 35, 36, 37, 38, 39, 40, 41, 42, 43, 44, 45, 46, 47, 48, 49, 50, 51, 52, 53, 54, 55, 56, 57, 58, 59, 60, 61, 62, 63, 64, 65, 66, 67, 68, 69] (by decide +kernel) (by decide +kernel)
set_option maxRecDepth 20000 in
theorem gX7_delivers_X7_arrives : GoodIn wsX7_delivers (wsV RX7 93 RX7 yX7_arrives wsX7_arrives) := goodIn_app (goodIn_of _ (by decide +kernel)) ggX7_delivers_X7_arrives
theorem dX7_delivers_0 : decode cX7_delivers 0 = .ok (.iconst 0, 1) := by decide +kernel
theorem dX7_delivers_1 : decode cX7_delivers 1 = .ok (.istore_n 2, 1) := by decide +kernel
theorem dX7_delivers_2 : decode cX7_delivers 2 = .ok (.iload_n 2, 1) := by decide +kernel
theorem dX7_delivers_3 : decode cX7_delivers 3 = .ok (.iload_n 1, 1) := by decide +kernel
theorem dX7_delivers_4 : decode cX7_delivers 4 = .ok (.if_icmp .ge 77, 3) := by decide +kernel
theorem dX7_delivers_7 : decode cX7_delivers 7 = .ok (.aload_n 0, 1) := by decide +kernel
theorem dX7_delivers_8 : decode cX7_delivers 8 = .ok (.getfield 7, 3) := by decide +kernel
theorem dX7_delivers_11 : decode cX7_delivers 11 = .ok (.sipush 577, 3) := by decide +kernel
theorem dX7_delivers_14 : decode cX7_delivers 14 = .ok (.iaload, 1) := by decide +kernel
theorem dX7_delivers_15 : decode cX7_delivers 15 = .ok (.ifCond .le 66, 3) := by decide +kernel
theorem dX7_delivers_18 : decode cX7_delivers 18 = .ok (.aload_n 0, 1) := by decide +kernel
theorem dX7_delivers_19 : decode cX7_delivers 19 = .ok (.iconst 0, 1) := by decide +kernel
theorem dX7_delivers_20 : decode cX7_delivers 20 = .ok (.invokevirtual 90, 3) := by decide +kernel
theorem dX7_delivers_23 : decode cX7_delivers 23 = .ok (.istore_n 3, 1) := by decide +kernel
theorem dX7_delivers_24 : decode cX7_delivers 24 = .ok (.aload_n 0, 1) := by decide +kernel
theorem dX7_delivers_25 : decode cX7_delivers 25 = .ok (.getfield 7, 3) := by decide +kernel
theorem dX7_delivers_28 : decode cX7_delivers 28 = .ok (.sipush 576, 3) := by decide +kernel
theorem dX7_delivers_31 : decode cX7_delivers 31 = .ok (.aload_n 0, 1) := by decide +kernel
theorem dX7_delivers_32 : decode cX7_delivers 32 = .ok (.getfield 7, 3) := by decide +kernel
theorem dX7_delivers_35 : decode cX7_delivers 35 = .ok (.sipush 576, 3) := by decide +kernel
theorem dX7_delivers_38 : decode cX7_delivers 38 = .ok (.iaload, 1) := by decide +kernel
theorem dX7_delivers_39 : decode cX7_delivers 39 = .ok (.iconst 1, 1) := by decide +kernel
theorem dX7_delivers_40 : decode cX7_delivers 40 = .ok (.iadd, 1) := by decide +kernel
theorem dX7_delivers_41 : decode cX7_delivers 41 = .ok (.sipush 300, 3) := by decide +kernel
theorem dX7_delivers_44 : decode cX7_delivers 44 = .ok (.irem, 1) := by decide +kernel
theorem dX7_delivers_45 : decode cX7_delivers 45 = .ok (.iastore, 1) := by decide +kernel
theorem dX7_delivers_46 : decode cX7_delivers 46 = .ok (.aload_n 0, 1) := by decide +kernel
theorem dX7_delivers_47 : decode cX7_delivers 47 = .ok (.getfield 7, 3) := by decide +kernel
theorem dX7_delivers_50 : decode cX7_delivers 50 = .ok (.sipush 577, 3) := by decide +kernel
theorem dX7_delivers_53 : decode cX7_delivers 53 = .ok (.dup2, 1) := by decide +kernel
theorem dX7_delivers_54 : decode cX7_delivers 54 = .ok (.iaload, 1) := by decide +kernel
theorem dX7_delivers_55 : decode cX7_delivers 55 = .ok (.iconst 1, 1) := by decide +kernel
theorem dX7_delivers_56 : decode cX7_delivers 56 = .ok (.isub, 1) := by decide +kernel
theorem dX7_delivers_57 : decode cX7_delivers 57 = .ok (.iastore, 1) := by decide +kernel
theorem dX7_delivers_58 : decode cX7_delivers 58 = .ok (.aload_n 0, 1) := by decide +kernel
theorem dX7_delivers_59 : decode cX7_delivers 59 = .ok (.getfield 7, 3) := by decide +kernel
theorem dX7_delivers_62 : decode cX7_delivers 62 = .ok (.sipush 579, 3) := by decide +kernel
theorem dX7_delivers_65 : decode cX7_delivers 65 = .ok (.dup2, 1) := by decide +kernel
theorem dX7_delivers_66 : decode cX7_delivers 66 = .ok (.iaload, 1) := by decide +kernel
theorem dX7_delivers_67 : decode cX7_delivers 67 = .ok (.iconst 1, 1) := by decide +kernel
theorem dX7_delivers_68 : decode cX7_delivers 68 = .ok (.iadd, 1) := by decide +kernel
theorem dX7_delivers_69 : decode cX7_delivers 69 = .ok (.iastore, 1) := by decide +kernel
theorem dX7_delivers_70 : decode cX7_delivers 70 = .ok (.aload_n 0, 1) := by decide +kernel
theorem dX7_delivers_71 : decode cX7_delivers 71 = .ok (.iload_n 3, 1) := by decide +kernel
theorem dX7_delivers_72 : decode cX7_delivers 72 = .ok (.invokevirtual 93, 3) := by decide +kernel
theorem dX7_delivers_75 : decode cX7_delivers 75 = .ok (.iinc 2 1, 3) := by decide +kernel
theorem dX7_delivers_78 : decode cX7_delivers 78 = .ok (.goto (-76), 3) := by decide +kernel
theorem dX7_delivers_81 : decode cX7_delivers 81 = .ok (.iload_n 2, 1) := by decide +kernel
theorem dX7_delivers_82 : decode cX7_delivers 82 = .ok (.ireturn, 1) := by decide +kernel
set_option maxRecDepth 20000 in
theorem ggX7_drops_X7_messageAt : GoodIn wsX7_drops wsX7_messageAt := goodIn_r _ [6, 1, 7, 8, 9, 10, 11, 12, 13, 14, 15, 16] (by decide +kernel) (by decide +kernel)
set_option maxRecDepth 20000 in
theorem gX7_drops_X7_messageAt : GoodIn wsX7_drops (wsV RX7 90 RX7 yX7_messageAt wsX7_messageAt) := goodIn_app (goodIn_of _ (by decide +kernel)) ggX7_drops_X7_messageAt
theorem dX7_drops_0 : decode cX7_drops 0 = .ok (.iload_n 1, 1) := by decide +kernel
theorem dX7_drops_1 : decode cX7_drops 1 = .ok (.istore_n 2, 1) := by decide +kernel
theorem dX7_drops_2 : decode cX7_drops 2 = .ok (.iload_n 2, 1) := by decide +kernel
theorem dX7_drops_3 : decode cX7_drops 3 = .ok (.aload_n 0, 1) := by decide +kernel
theorem dX7_drops_4 : decode cX7_drops 4 = .ok (.getfield 7, 3) := by decide +kernel
theorem dX7_drops_7 : decode cX7_drops 7 = .ok (.sipush 577, 3) := by decide +kernel
theorem dX7_drops_10 : decode cX7_drops 10 = .ok (.iaload, 1) := by decide +kernel
theorem dX7_drops_11 : decode cX7_drops 11 = .ok (.iconst 1, 1) := by decide +kernel
theorem dX7_drops_12 : decode cX7_drops 12 = .ok (.isub, 1) := by decide +kernel
theorem dX7_drops_13 : decode cX7_drops 13 = .ok (.if_icmp .ge 39, 3) := by decide +kernel
theorem dX7_drops_16 : decode cX7_drops 16 = .ok (.aload_n 0, 1) := by decide +kernel
theorem dX7_drops_17 : decode cX7_drops 17 = .ok (.getfield 7, 3) := by decide +kernel
theorem dX7_drops_20 : decode cX7_drops 20 = .ok (.sipush 276, 3) := by decide +kernel
theorem dX7_drops_23 : decode cX7_drops 23 = .ok (.aload_n 0, 1) := by decide +kernel
theorem dX7_drops_24 : decode cX7_drops 24 = .ok (.getfield 7, 3) := by decide +kernel
theorem dX7_drops_27 : decode cX7_drops 27 = .ok (.sipush 576, 3) := by decide +kernel
theorem dX7_drops_30 : decode cX7_drops 30 = .ok (.iaload, 1) := by decide +kernel
theorem dX7_drops_31 : decode cX7_drops 31 = .ok (.iload_n 2, 1) := by decide +kernel
theorem dX7_drops_32 : decode cX7_drops 32 = .ok (.iadd, 1) := by decide +kernel
theorem dX7_drops_33 : decode cX7_drops 33 = .ok (.sipush 300, 3) := by decide +kernel
theorem dX7_drops_36 : decode cX7_drops 36 = .ok (.irem, 1) := by decide +kernel
theorem dX7_drops_37 : decode cX7_drops 37 = .ok (.iadd, 1) := by decide +kernel
theorem dX7_drops_38 : decode cX7_drops 38 = .ok (.aload_n 0, 1) := by decide +kernel
theorem dX7_drops_39 : decode cX7_drops 39 = .ok (.iload_n 2, 1) := by decide +kernel
theorem dX7_drops_40 : decode cX7_drops 40 = .ok (.iconst 1, 1) := by decide +kernel
theorem dX7_drops_41 : decode cX7_drops 41 = .ok (.iadd, 1) := by decide +kernel
theorem dX7_drops_42 : decode cX7_drops 42 = .ok (.invokevirtual 90, 3) := by decide +kernel
theorem dX7_drops_45 : decode cX7_drops 45 = .ok (.iastore, 1) := by decide +kernel
theorem dX7_drops_46 : decode cX7_drops 46 = .ok (.iinc 2 1, 3) := by decide +kernel
theorem dX7_drops_49 : decode cX7_drops 49 = .ok (.goto (-47), 3) := by decide +kernel
theorem dX7_drops_52 : decode cX7_drops 52 = .ok (.aload_n 0, 1) := by decide +kernel
theorem dX7_drops_53 : decode cX7_drops 53 = .ok (.getfield 7, 3) := by decide +kernel
theorem dX7_drops_56 : decode cX7_drops 56 = .ok (.sipush 577, 3) := by decide +kernel
theorem dX7_drops_59 : decode cX7_drops 59 = .ok (.dup2, 1) := by decide +kernel
theorem dX7_drops_60 : decode cX7_drops 60 = .ok (.iaload, 1) := by decide +kernel
theorem dX7_drops_61 : decode cX7_drops 61 = .ok (.iconst 1, 1) := by decide +kernel
theorem dX7_drops_62 : decode cX7_drops 62 = .ok (.isub, 1) := by decide +kernel
theorem dX7_drops_63 : decode cX7_drops 63 = .ok (.iastore, 1) := by decide +kernel
theorem dX7_drops_64 : decode cX7_drops 64 = .ok (.aload_n 0, 1) := by decide +kernel
theorem dX7_drops_65 : decode cX7_drops 65 = .ok (.getfield 7, 3) := by decide +kernel
theorem dX7_drops_68 : decode cX7_drops 68 = .ok (.sipush 580, 3) := by decide +kernel
theorem dX7_drops_71 : decode cX7_drops 71 = .ok (.dup2, 1) := by decide +kernel
theorem dX7_drops_72 : decode cX7_drops 72 = .ok (.iaload, 1) := by decide +kernel
theorem dX7_drops_73 : decode cX7_drops 73 = .ok (.iconst 1, 1) := by decide +kernel
theorem dX7_drops_74 : decode cX7_drops 74 = .ok (.iadd, 1) := by decide +kernel
theorem dX7_drops_75 : decode cX7_drops 75 = .ok (.iastore, 1) := by decide +kernel
theorem dX7_drops_76 : decode cX7_drops 76 = .ok (.return_, 1) := by decide +kernel
set_option maxRecDepth 20000 in
theorem ggX7_asks_X7_has : GoodIn wsX7_asks wsX7_has := goodIn_r _ [5, 6, 7, 8, 4, 9, 10, 23, 24, 25, 26, 27, 28, 29, 30, 31, 32] (by decide +kernel) (by decide +kernel)
set_option maxRecDepth 20000 in
theorem gX7_asks_X7_has : GoodIn wsX7_asks (wsV RX7 73 RX7 yX7_has wsX7_has) := goodIn_app (goodIn_of _ (by decide +kernel)) ggX7_asks_X7_has
set_option maxRecDepth 20000 in
theorem ggX7_asks_X7_state : GoodIn wsX7_asks wsX7_state := goodIn_r _ [9, 10, 23, 24, 25, 26, 27, 28, 29, 30, 31, 32] (by decide +kernel) (by decide +kernel)
set_option maxRecDepth 20000 in
theorem gX7_asks_X7_state : GoodIn wsX7_asks (wsV RX7 48 RX7 yX7_state wsX7_state) := goodIn_app (goodIn_of _ (by decide +kernel)) ggX7_asks_X7_state
set_option maxRecDepth 20000 in
theorem ggX7_asks_X7_become : GoodIn wsX7_asks wsX7_become := goodIn_r _ [14, 10, 6, 7, 8, 4, 9, 23, 24, 25, 26, 27, 28, 29, 30, 31, 32] (by decide +kernel) (by decide +kernel)
set_option maxRecDepth 20000 in
theorem gX7_asks_X7_become : GoodIn wsX7_asks (wsV RX7 79 RX7 yX7_become wsX7_become) := goodIn_app (goodIn_of _ (by decide +kernel)) ggX7_asks_X7_become
set_option maxRecDepth 20000 in
theorem ggX7_asks_X7_send : GoodIn wsX7_asks wsX7_send := goodIn_r _ [18, 10, 19, 20, 21, 4, 22, 23, 24, 25, 26, 27, 28, 29, 30, 31, 32] (by decide +kernel) (by decide +kernel)
set_option maxRecDepth 20000 in
theorem gX7_asks_X7_send : GoodIn wsX7_asks (wsV RX7 66 RX7 yX7_send wsX7_send) := goodIn_app (goodIn_of _ (by decide +kernel)) ggX7_asks_X7_send
theorem dX7_asks_0 : decode cX7_asks 0 = .ok (.aload_n 0, 1) := by decide +kernel
theorem dX7_asks_1 : decode cX7_asks 1 = .ok (.iload_n 1, 1) := by decide +kernel
theorem dX7_asks_2 : decode cX7_asks 2 = .ok (.iload_n 2, 1) := by decide +kernel
theorem dX7_asks_3 : decode cX7_asks 3 = .ok (.iconst 5, 1) := by decide +kernel
theorem dX7_asks_4 : decode cX7_asks 4 = .ok (.invokevirtual 73, 3) := by decide +kernel
theorem dX7_asks_7 : decode cX7_asks 7 = .ok (.ifCond .eq 5, 3) := by decide +kernel
theorem dX7_asks_10 : decode cX7_asks 10 = .ok (.iconst 0, 1) := by decide +kernel
theorem dX7_asks_11 : decode cX7_asks 11 = .ok (.ireturn, 1) := by decide +kernel
theorem dX7_asks_12 : decode cX7_asks 12 = .ok (.aload_n 0, 1) := by decide +kernel
theorem dX7_asks_13 : decode cX7_asks 13 = .ok (.iload_n 1, 1) := by decide +kernel
theorem dX7_asks_14 : decode cX7_asks 14 = .ok (.iload_n 2, 1) := by decide +kernel
theorem dX7_asks_15 : decode cX7_asks 15 = .ok (.aload_n 0, 1) := by decide +kernel
theorem dX7_asks_16 : decode cX7_asks 16 = .ok (.iload_n 1, 1) := by decide +kernel
theorem dX7_asks_17 : decode cX7_asks 17 = .ok (.iload_n 2, 1) := by decide +kernel
theorem dX7_asks_18 : decode cX7_asks 18 = .ok (.invokevirtual 48, 3) := by decide +kernel
theorem dX7_asks_21 : decode cX7_asks 21 = .ok (.iconst 4, 1) := by decide +kernel
theorem dX7_asks_22 : decode cX7_asks 22 = .ok (.ior, 1) := by decide +kernel
theorem dX7_asks_23 : decode cX7_asks 23 = .ok (.invokevirtual 79, 3) := by decide +kernel
theorem dX7_asks_26 : decode cX7_asks 26 = .ok (.aload_n 0, 1) := by decide +kernel
theorem dX7_asks_27 : decode cX7_asks 27 = .ok (.iconst 0, 1) := by decide +kernel
theorem dX7_asks_28 : decode cX7_asks 28 = .ok (.iload_n 1, 1) := by decide +kernel
theorem dX7_asks_29 : decode cX7_asks 29 = .ok (.iload_n 2, 1) := by decide +kernel
theorem dX7_asks_30 : decode cX7_asks 30 = .ok (.iconst 0, 1) := by decide +kernel
theorem dX7_asks_31 : decode cX7_asks 31 = .ok (.iconst 0, 1) := by decide +kernel
theorem dX7_asks_32 : decode cX7_asks 32 = .ok (.invokevirtual 66, 3) := by decide +kernel
theorem dX7_asks_35 : decode cX7_asks 35 = .ok (.iconst 1, 1) := by decide +kernel
theorem dX7_asks_36 : decode cX7_asks 36 = .ok (.ireturn, 1) := by decide +kernel
set_option maxRecDepth 20000 in
theorem ggX7_ask_X7_whyNot : GoodIn wsX7_ask wsX7_whyNot := goodIn_r _ [5, 6, 7, 4, 8, 9, 10, 11] (by decide +kernel) (by decide +kernel)
set_option maxRecDepth 20000 in
theorem gX7_ask_X7_whyNot : GoodIn wsX7_ask (va_wsS RX7 97 yX7_whyNot wsX7_whyNot) := goodIn_app (goodIn_of _ (by decide +kernel)) ggX7_ask_X7_whyNot
set_option maxRecDepth 20000 in
theorem ggX7_ask_X7_keep : GoodIn wsX7_ask wsX7_keep := goodIn_r _ [15, 16, 17, 18, 19, 20, 4, 21, 46, 47, 48, 49, 50, 51, 52, 53, 54, 55] (by decide +kernel) (by decide +kernel)
set_option maxRecDepth 20000 in
theorem gX7_ask_X7_keep : GoodIn wsX7_ask (wsV RX7 100 RX7 yX7_keep wsX7_keep) := goodIn_app (goodIn_of _ (by decide +kernel)) ggX7_ask_X7_keep
set_option maxRecDepth 20000 in
theorem ggX7_ask_X7_asks : GoodIn wsX7_ask wsX7_asks := goodIn_r _ [25, 26, 27, 28, 4, 29, 30, 31, 32, 33, 18, 34, 35, 36, 37, 38, 39, 40, 41, 42, 43, 44, 45, 46, 47, 48, 49, 50, 51, 52, 53, 54, 55] (by decide +kernel) (by decide +kernel)
set_option maxRecDepth 20000 in
theorem gX7_ask_X7_asks : GoodIn wsX7_ask (wsV RX7 103 RX7 yX7_asks wsX7_asks) := goodIn_app (goodIn_of _ (by decide +kernel)) ggX7_ask_X7_asks
theorem dX7_ask_0 : decode cX7_ask 0 = .ok (.aload_n 0, 1) := by decide +kernel
theorem dX7_ask_1 : decode cX7_ask 1 = .ok (.iload_n 1, 1) := by decide +kernel
theorem dX7_ask_2 : decode cX7_ask 2 = .ok (.iload_n 2, 1) := by decide +kernel
theorem dX7_ask_3 : decode cX7_ask 3 = .ok (.invokestatic 97, 3) := by decide +kernel
theorem dX7_ask_6 : decode cX7_ask 6 = .ok (.putfield 25, 3) := by decide +kernel
theorem dX7_ask_9 : decode cX7_ask 9 = .ok (.aload_n 0, 1) := by decide +kernel
theorem dX7_ask_10 : decode cX7_ask 10 = .ok (.getfield 25, 3) := by decide +kernel
theorem dX7_ask_13 : decode cX7_ask 13 = .ok (.ifCond .eq 5, 3) := by decide +kernel
theorem dX7_ask_16 : decode cX7_ask 16 = .ok (.iconst 0, 1) := by decide +kernel
theorem dX7_ask_17 : decode cX7_ask 17 = .ok (.ireturn, 1) := by decide +kernel
theorem dX7_ask_18 : decode cX7_ask 18 = .ok (.aload_n 0, 1) := by decide +kernel
theorem dX7_ask_19 : decode cX7_ask 19 = .ok (.invokevirtual 100, 3) := by decide +kernel
theorem dX7_ask_22 : decode cX7_ask 22 = .ok (.aload_n 0, 1) := by decide +kernel
theorem dX7_ask_23 : decode cX7_ask 23 = .ok (.iload_n 1, 1) := by decide +kernel
theorem dX7_ask_24 : decode cX7_ask 24 = .ok (.iload_n 2, 1) := by decide +kernel
theorem dX7_ask_25 : decode cX7_ask 25 = .ok (.invokevirtual 103, 3) := by decide +kernel
theorem dX7_ask_28 : decode cX7_ask 28 = .ok (.ireturn, 1) := by decide +kernel
set_option maxRecDepth 20000 in
theorem ggX7_grants_X7_has : GoodIn wsX7_grants wsX7_has := goodIn_r _ [5, 6, 7, 8, 4, 9, 10, 34, 35, 36, 37, 38, 39, 40, 41, 42, 43] (by decide +kernel) (by decide +kernel)
set_option maxRecDepth 20000 in
theorem gX7_grants_X7_has : GoodIn wsX7_grants (wsV RX7 73 RX7 yX7_has wsX7_has) := goodIn_app (goodIn_of _ (by decide +kernel)) ggX7_grants_X7_has
set_option maxRecDepth 20000 in
theorem ggX7_grants_X7_state : GoodIn wsX7_grants wsX7_state := goodIn_r _ [9, 10, 34, 35, 36, 37, 38, 39, 40, 41, 42, 43] (by decide +kernel) (by decide +kernel)
set_option maxRecDepth 20000 in
theorem gX7_grants_X7_state : GoodIn wsX7_grants (wsV RX7 48 RX7 yX7_state wsX7_state) := goodIn_app (goodIn_of _ (by decide +kernel)) ggX7_grants_X7_state
set_option maxRecDepth 20000 in
theorem ggX7_grants_X7_become : GoodIn wsX7_grants wsX7_become := goodIn_r _ [14, 10, 6, 7, 8, 4, 9, 34, 35, 36, 37, 38, 39, 40, 41, 42, 43] (by decide +kernel) (by decide +kernel)
set_option maxRecDepth 20000 in
theorem gX7_grants_X7_become : GoodIn wsX7_grants (wsV RX7 79 RX7 yX7_become wsX7_become) := goodIn_app (goodIn_of _ (by decide +kernel)) ggX7_grants_X7_become
set_option maxRecDepth 20000 in
theorem ggX7_grants_X7_send : GoodIn wsX7_grants wsX7_send := goodIn_r _ [18, 10, 19, 20, 21, 4, 22, 34, 35, 36, 37, 38, 39, 40, 41, 42, 43] (by decide +kernel) (by decide +kernel)
set_option maxRecDepth 20000 in
theorem gX7_grants_X7_send : GoodIn wsX7_grants (wsV RX7 66 RX7 yX7_send wsX7_send) := goodIn_app (goodIn_of _ (by decide +kernel)) ggX7_grants_X7_send
set_option maxRecDepth 20000 in
theorem ggX7_grants_X7_shows : GoodIn wsX7_grants wsX7_shows := goodIn_r _ [26, 10, 27, 28, 29, 4, 30, 31, 32, 33, 15, 16, 17, 18, 19, 20, 21, 22, 34, 35, 36, 37, 38, 39, 40, 41, 42, 43] (by decide +kernel) (by decide +kernel)
set_option maxRecDepth 20000 in
theorem gX7_grants_X7_shows : GoodIn wsX7_grants (wsV RX7 76 RX7 yX7_shows wsX7_shows) := goodIn_app (goodIn_of _ (by decide +kernel)) ggX7_grants_X7_shows
theorem dX7_grants_0 : decode cX7_grants 0 = .ok (.aload_n 0, 1) := by decide +kernel
theorem dX7_grants_1 : decode cX7_grants 1 = .ok (.iload_n 1, 1) := by decide +kernel
theorem dX7_grants_2 : decode cX7_grants 2 = .ok (.iload_n 2, 1) := by decide +kernel
theorem dX7_grants_3 : decode cX7_grants 3 = .ok (.bipush 8, 2) := by decide +kernel
theorem dX7_grants_5 : decode cX7_grants 5 = .ok (.invokevirtual 73, 3) := by decide +kernel
theorem dX7_grants_8 : decode cX7_grants 8 = .ok (.ifCond .ne 5, 3) := by decide +kernel
theorem dX7_grants_11 : decode cX7_grants 11 = .ok (.iconst 0, 1) := by decide +kernel
theorem dX7_grants_12 : decode cX7_grants 12 = .ok (.ireturn, 1) := by decide +kernel
theorem dX7_grants_13 : decode cX7_grants 13 = .ok (.aload_n 0, 1) := by decide +kernel
theorem dX7_grants_14 : decode cX7_grants 14 = .ok (.iload_n 1, 1) := by decide +kernel
theorem dX7_grants_15 : decode cX7_grants 15 = .ok (.iload_n 2, 1) := by decide +kernel
theorem dX7_grants_16 : decode cX7_grants 16 = .ok (.aload_n 0, 1) := by decide +kernel
theorem dX7_grants_17 : decode cX7_grants 17 = .ok (.iload_n 1, 1) := by decide +kernel
theorem dX7_grants_18 : decode cX7_grants 18 = .ok (.iload_n 2, 1) := by decide +kernel
theorem dX7_grants_19 : decode cX7_grants 19 = .ok (.invokevirtual 48, 3) := by decide +kernel
theorem dX7_grants_22 : decode cX7_grants 22 = .ok (.bipush (-9), 2) := by decide +kernel
theorem dX7_grants_24 : decode cX7_grants 24 = .ok (.iand, 1) := by decide +kernel
theorem dX7_grants_25 : decode cX7_grants 25 = .ok (.iconst 2, 1) := by decide +kernel
theorem dX7_grants_26 : decode cX7_grants 26 = .ok (.ior, 1) := by decide +kernel
theorem dX7_grants_27 : decode cX7_grants 27 = .ok (.invokevirtual 79, 3) := by decide +kernel
theorem dX7_grants_30 : decode cX7_grants 30 = .ok (.aload_n 0, 1) := by decide +kernel
theorem dX7_grants_31 : decode cX7_grants 31 = .ok (.iconst 1, 1) := by decide +kernel
theorem dX7_grants_32 : decode cX7_grants 32 = .ok (.iload_n 1, 1) := by decide +kernel
theorem dX7_grants_33 : decode cX7_grants 33 = .ok (.iload_n 2, 1) := by decide +kernel
theorem dX7_grants_34 : decode cX7_grants 34 = .ok (.iconst 0, 1) := by decide +kernel
theorem dX7_grants_35 : decode cX7_grants 35 = .ok (.iconst 0, 1) := by decide +kernel
theorem dX7_grants_36 : decode cX7_grants 36 = .ok (.invokevirtual 66, 3) := by decide +kernel
theorem dX7_grants_39 : decode cX7_grants 39 = .ok (.aload_n 0, 1) := by decide +kernel
theorem dX7_grants_40 : decode cX7_grants 40 = .ok (.iload_n 1, 1) := by decide +kernel
theorem dX7_grants_41 : decode cX7_grants 41 = .ok (.iload_n 2, 1) := by decide +kernel
theorem dX7_grants_42 : decode cX7_grants 42 = .ok (.invokevirtual 76, 3) := by decide +kernel
theorem dX7_grants_45 : decode cX7_grants 45 = .ok (.iconst 1, 1) := by decide +kernel
theorem dX7_grants_46 : decode cX7_grants 46 = .ok (.ireturn, 1) := by decide +kernel
set_option maxRecDepth 20000 in
theorem ggX7_grant_X7_whyNot : GoodIn wsX7_grant wsX7_whyNot := goodIn_r _ [5, 6, 7, 4, 8, 9, 10, 11] (by decide +kernel) (by decide +kernel)
set_option maxRecDepth 20000 in
theorem gX7_grant_X7_whyNot : GoodIn wsX7_grant (va_wsS RX7 97 yX7_whyNot wsX7_whyNot) := goodIn_app (goodIn_of _ (by decide +kernel)) ggX7_grant_X7_whyNot
set_option maxRecDepth 20000 in
theorem ggX7_grant_X7_keep : GoodIn wsX7_grant wsX7_keep := goodIn_r _ [15, 16, 17, 18, 19, 20, 4, 21, 57, 58, 59, 60, 61, 62, 63, 64, 65, 66] (by decide +kernel) (by decide +kernel)
set_option maxRecDepth 20000 in
theorem gX7_grant_X7_keep : GoodIn wsX7_grant (wsV RX7 100 RX7 yX7_keep wsX7_keep) := goodIn_app (goodIn_of _ (by decide +kernel)) ggX7_grant_X7_keep
set_option maxRecDepth 20000 in
theorem ggX7_grant_X7_grants : GoodIn wsX7_grant wsX7_grants := goodIn_r _ [25, 26, 27, 28, 4, 29, 30, 31, 32, 33, 18, 34, 35, 36, 37, 38, 39, 40, 41, 42, 43, 44, 45, 46, 47, 48, 49, 50, 51, 52, 53, 54, 55, 56, 57, 58, 59, 60, 61, 62, 63, 64, 65, 66] (by decide +kernel) (by decide +kernel)
set_option maxRecDepth 20000 in
theorem gX7_grant_X7_grants : GoodIn wsX7_grant (wsV RX7 106 RX7 yX7_grants wsX7_grants) := goodIn_app (goodIn_of _ (by decide +kernel)) ggX7_grant_X7_grants
theorem dX7_grant_0 : decode cX7_grant 0 = .ok (.aload_n 0, 1) := by decide +kernel
theorem dX7_grant_1 : decode cX7_grant 1 = .ok (.iload_n 1, 1) := by decide +kernel
theorem dX7_grant_2 : decode cX7_grant 2 = .ok (.iload_n 2, 1) := by decide +kernel
theorem dX7_grant_3 : decode cX7_grant 3 = .ok (.invokestatic 97, 3) := by decide +kernel
theorem dX7_grant_6 : decode cX7_grant 6 = .ok (.putfield 25, 3) := by decide +kernel
theorem dX7_grant_9 : decode cX7_grant 9 = .ok (.aload_n 0, 1) := by decide +kernel
theorem dX7_grant_10 : decode cX7_grant 10 = .ok (.getfield 25, 3) := by decide +kernel
theorem dX7_grant_13 : decode cX7_grant 13 = .ok (.ifCond .eq 5, 3) := by decide +kernel
theorem dX7_grant_16 : decode cX7_grant 16 = .ok (.iconst 0, 1) := by decide +kernel
theorem dX7_grant_17 : decode cX7_grant 17 = .ok (.ireturn, 1) := by decide +kernel
theorem dX7_grant_18 : decode cX7_grant 18 = .ok (.aload_n 0, 1) := by decide +kernel
theorem dX7_grant_19 : decode cX7_grant 19 = .ok (.invokevirtual 100, 3) := by decide +kernel
theorem dX7_grant_22 : decode cX7_grant 22 = .ok (.aload_n 0, 1) := by decide +kernel
theorem dX7_grant_23 : decode cX7_grant 23 = .ok (.iload_n 1, 1) := by decide +kernel
theorem dX7_grant_24 : decode cX7_grant 24 = .ok (.iload_n 2, 1) := by decide +kernel
theorem dX7_grant_25 : decode cX7_grant 25 = .ok (.invokevirtual 106, 3) := by decide +kernel
theorem dX7_grant_28 : decode cX7_grant 28 = .ok (.ireturn, 1) := by decide +kernel
set_option maxRecDepth 20000 in
theorem ggX7_refuses_X7_has : GoodIn wsX7_refuses wsX7_has := goodIn_r _ [5, 6, 7, 8, 4, 9, 10, 34, 35, 36, 37, 38, 39, 40, 41, 42, 43] (by decide +kernel) (by decide +kernel)
set_option maxRecDepth 20000 in
theorem gX7_refuses_X7_has : GoodIn wsX7_refuses (wsV RX7 73 RX7 yX7_has wsX7_has) := goodIn_app (goodIn_of _ (by decide +kernel)) ggX7_refuses_X7_has
set_option maxRecDepth 20000 in
theorem ggX7_refuses_X7_state : GoodIn wsX7_refuses wsX7_state := goodIn_r _ [9, 10, 34, 35, 36, 37, 38, 39, 40, 41, 42, 43] (by decide +kernel) (by decide +kernel)
set_option maxRecDepth 20000 in
theorem gX7_refuses_X7_state : GoodIn wsX7_refuses (wsV RX7 48 RX7 yX7_state wsX7_state) := goodIn_app (goodIn_of _ (by decide +kernel)) ggX7_refuses_X7_state
set_option maxRecDepth 20000 in
theorem ggX7_refuses_X7_become : GoodIn wsX7_refuses wsX7_become := goodIn_r _ [14, 10, 6, 7, 8, 4, 9, 34, 35, 36, 37, 38, 39, 40, 41, 42, 43] (by decide +kernel) (by decide +kernel)
set_option maxRecDepth 20000 in
theorem gX7_refuses_X7_become : GoodIn wsX7_refuses (wsV RX7 79 RX7 yX7_become wsX7_become) := goodIn_app (goodIn_of _ (by decide +kernel)) ggX7_refuses_X7_become
set_option maxRecDepth 20000 in
theorem ggX7_refuses_X7_send : GoodIn wsX7_refuses wsX7_send := goodIn_r _ [18, 10, 19, 20, 21, 4, 22, 34, 35, 36, 37, 38, 39, 40, 41, 42, 43] (by decide +kernel) (by decide +kernel)
set_option maxRecDepth 20000 in
theorem gX7_refuses_X7_send : GoodIn wsX7_refuses (wsV RX7 66 RX7 yX7_send wsX7_send) := goodIn_app (goodIn_of _ (by decide +kernel)) ggX7_refuses_X7_send
set_option maxRecDepth 20000 in
theorem ggX7_refuses_X7_hides : GoodIn wsX7_refuses wsX7_hides := goodIn_r _ [26, 27, 28, 29, 4, 30, 10, 31, 32, 33, 15, 16, 17, 18, 19, 20, 21, 22, 34, 35, 36, 37, 38, 39, 40, 41, 42, 43] (by decide +kernel) (by decide +kernel)
set_option maxRecDepth 20000 in
theorem gX7_refuses_X7_hides : GoodIn wsX7_refuses (wsV RX7 83 RX7 yX7_hides wsX7_hides) := goodIn_app (goodIn_of _ (by decide +kernel)) ggX7_refuses_X7_hides
theorem dX7_refuses_0 : decode cX7_refuses 0 = .ok (.aload_n 0, 1) := by decide +kernel
theorem dX7_refuses_1 : decode cX7_refuses 1 = .ok (.iload_n 1, 1) := by decide +kernel
theorem dX7_refuses_2 : decode cX7_refuses 2 = .ok (.iload_n 2, 1) := by decide +kernel
theorem dX7_refuses_3 : decode cX7_refuses 3 = .ok (.bipush 10, 2) := by decide +kernel
theorem dX7_refuses_5 : decode cX7_refuses 5 = .ok (.invokevirtual 73, 3) := by decide +kernel
theorem dX7_refuses_8 : decode cX7_refuses 8 = .ok (.ifCond .ne 5, 3) := by decide +kernel
theorem dX7_refuses_11 : decode cX7_refuses 11 = .ok (.iconst 0, 1) := by decide +kernel
theorem dX7_refuses_12 : decode cX7_refuses 12 = .ok (.ireturn, 1) := by decide +kernel
theorem dX7_refuses_13 : decode cX7_refuses 13 = .ok (.aload_n 0, 1) := by decide +kernel
theorem dX7_refuses_14 : decode cX7_refuses 14 = .ok (.iload_n 1, 1) := by decide +kernel
theorem dX7_refuses_15 : decode cX7_refuses 15 = .ok (.iload_n 2, 1) := by decide +kernel
theorem dX7_refuses_16 : decode cX7_refuses 16 = .ok (.iconst 2, 1) := by decide +kernel
theorem dX7_refuses_17 : decode cX7_refuses 17 = .ok (.invokevirtual 73, 3) := by decide +kernel
theorem dX7_refuses_20 : decode cX7_refuses 20 = .ok (.istore_n 3, 1) := by decide +kernel
theorem dX7_refuses_21 : decode cX7_refuses 21 = .ok (.aload_n 0, 1) := by decide +kernel
theorem dX7_refuses_22 : decode cX7_refuses 22 = .ok (.iload_n 1, 1) := by decide +kernel
theorem dX7_refuses_23 : decode cX7_refuses 23 = .ok (.iload_n 2, 1) := by decide +kernel
theorem dX7_refuses_24 : decode cX7_refuses 24 = .ok (.aload_n 0, 1) := by decide +kernel
theorem dX7_refuses_25 : decode cX7_refuses 25 = .ok (.iload_n 1, 1) := by decide +kernel
theorem dX7_refuses_26 : decode cX7_refuses 26 = .ok (.iload_n 2, 1) := by decide +kernel
theorem dX7_refuses_27 : decode cX7_refuses 27 = .ok (.invokevirtual 48, 3) := by decide +kernel
theorem dX7_refuses_30 : decode cX7_refuses 30 = .ok (.bipush (-11), 2) := by decide +kernel
theorem dX7_refuses_32 : decode cX7_refuses 32 = .ok (.iand, 1) := by decide +kernel
theorem dX7_refuses_33 : decode cX7_refuses 33 = .ok (.invokevirtual 79, 3) := by decide +kernel
theorem dX7_refuses_36 : decode cX7_refuses 36 = .ok (.aload_n 0, 1) := by decide +kernel
theorem dX7_refuses_37 : decode cX7_refuses 37 = .ok (.iconst 3, 1) := by decide +kernel
theorem dX7_refuses_38 : decode cX7_refuses 38 = .ok (.iload_n 1, 1) := by decide +kernel
theorem dX7_refuses_39 : decode cX7_refuses 39 = .ok (.iload_n 2, 1) := by decide +kernel
theorem dX7_refuses_40 : decode cX7_refuses 40 = .ok (.iconst 0, 1) := by decide +kernel
theorem dX7_refuses_41 : decode cX7_refuses 41 = .ok (.iconst 0, 1) := by decide +kernel
theorem dX7_refuses_42 : decode cX7_refuses 42 = .ok (.invokevirtual 66, 3) := by decide +kernel
theorem dX7_refuses_45 : decode cX7_refuses 45 = .ok (.iload_n 3, 1) := by decide +kernel
theorem dX7_refuses_46 : decode cX7_refuses 46 = .ok (.ifCond .eq 9, 3) := by decide +kernel
theorem dX7_refuses_49 : decode cX7_refuses 49 = .ok (.aload_n 0, 1) := by decide +kernel
theorem dX7_refuses_50 : decode cX7_refuses 50 = .ok (.iload_n 1, 1) := by decide +kernel
theorem dX7_refuses_51 : decode cX7_refuses 51 = .ok (.iload_n 2, 1) := by decide +kernel
theorem dX7_refuses_52 : decode cX7_refuses 52 = .ok (.invokevirtual 83, 3) := by decide +kernel
theorem dX7_refuses_55 : decode cX7_refuses 55 = .ok (.iconst 1, 1) := by decide +kernel
theorem dX7_refuses_56 : decode cX7_refuses 56 = .ok (.ireturn, 1) := by decide +kernel
set_option maxRecDepth 20000 in
theorem ggX7_refuse_X7_whyNot : GoodIn wsX7_refuse wsX7_whyNot := goodIn_r _ [5, 6, 7, 4, 8, 9, 10, 11] (by decide +kernel) (by decide +kernel)
set_option maxRecDepth 20000 in
theorem gX7_refuse_X7_whyNot : GoodIn wsX7_refuse (va_wsS RX7 97 yX7_whyNot wsX7_whyNot) := goodIn_app (goodIn_of _ (by decide +kernel)) ggX7_refuse_X7_whyNot
set_option maxRecDepth 20000 in
theorem ggX7_refuse_X7_keep : GoodIn wsX7_refuse wsX7_keep := goodIn_r _ [15, 16, 17, 18, 19, 20, 4, 21, 57, 58, 59, 60, 61, 62, 63, 64, 65, 66] (by decide +kernel) (by decide +kernel)
set_option maxRecDepth 20000 in
theorem gX7_refuse_X7_keep : GoodIn wsX7_refuse (wsV RX7 100 RX7 yX7_keep wsX7_keep) := goodIn_app (goodIn_of _ (by decide +kernel)) ggX7_refuse_X7_keep
set_option maxRecDepth 20000 in
theorem ggX7_refuse_X7_refuses : GoodIn wsX7_refuse wsX7_refuses := goodIn_r _ [25, 26, 27, 28, 4, 29, 30, 31, 32, 33, 18, 34, 35, 36, 37, 38, 39, 40, 41, 42, 43, 44, 45, 46, 47, 48, 49, 50, 51, 52, 53, 54, 55, 56, 57, 58, 59, 60, 61, 62, 63, 64, 65, 66] (by decide +kernel) (by decide +kernel)
set_option maxRecDepth 20000 in
theorem gX7_refuse_X7_refuses : GoodIn wsX7_refuse (wsV RX7 109 RX7 yX7_refuses wsX7_refuses) := goodIn_app (goodIn_of _ (by decide +kernel)) ggX7_refuse_X7_refuses
theorem dX7_refuse_0 : decode cX7_refuse 0 = .ok (.aload_n 0, 1) := by decide +kernel
theorem dX7_refuse_1 : decode cX7_refuse 1 = .ok (.iload_n 1, 1) := by decide +kernel
theorem dX7_refuse_2 : decode cX7_refuse 2 = .ok (.iload_n 2, 1) := by decide +kernel
theorem dX7_refuse_3 : decode cX7_refuse 3 = .ok (.invokestatic 97, 3) := by decide +kernel
theorem dX7_refuse_6 : decode cX7_refuse 6 = .ok (.putfield 25, 3) := by decide +kernel
theorem dX7_refuse_9 : decode cX7_refuse 9 = .ok (.aload_n 0, 1) := by decide +kernel
theorem dX7_refuse_10 : decode cX7_refuse 10 = .ok (.getfield 25, 3) := by decide +kernel
theorem dX7_refuse_13 : decode cX7_refuse 13 = .ok (.ifCond .eq 5, 3) := by decide +kernel
theorem dX7_refuse_16 : decode cX7_refuse 16 = .ok (.iconst 0, 1) := by decide +kernel
theorem dX7_refuse_17 : decode cX7_refuse 17 = .ok (.ireturn, 1) := by decide +kernel
theorem dX7_refuse_18 : decode cX7_refuse 18 = .ok (.aload_n 0, 1) := by decide +kernel
theorem dX7_refuse_19 : decode cX7_refuse 19 = .ok (.invokevirtual 100, 3) := by decide +kernel
theorem dX7_refuse_22 : decode cX7_refuse 22 = .ok (.aload_n 0, 1) := by decide +kernel
theorem dX7_refuse_23 : decode cX7_refuse 23 = .ok (.iload_n 1, 1) := by decide +kernel
theorem dX7_refuse_24 : decode cX7_refuse 24 = .ok (.iload_n 2, 1) := by decide +kernel
theorem dX7_refuse_25 : decode cX7_refuse 25 = .ok (.invokevirtual 109, 3) := by decide +kernel
theorem dX7_refuse_28 : decode cX7_refuse 28 = .ok (.ireturn, 1) := by decide +kernel
set_option maxRecDepth 20000 in
theorem ggX7_stops_X7_has : GoodIn wsX7_stops wsX7_has := goodIn_r _ [5, 6, 7, 8, 4, 9, 10, 30, 31, 32, 33, 34, 35, 36, 37, 38, 39] (by decide +kernel) (by decide +kernel)
set_option maxRecDepth 20000 in
theorem gX7_stops_X7_has : GoodIn wsX7_stops (wsV RX7 73 RX7 yX7_has wsX7_has) := goodIn_app (goodIn_of _ (by decide +kernel)) ggX7_stops_X7_has
set_option maxRecDepth 20000 in
theorem ggX7_stops_X7_state : GoodIn wsX7_stops wsX7_state := goodIn_r _ [9, 10, 30, 31, 32, 33, 34, 35, 36, 37, 38, 39] (by decide +kernel) (by decide +kernel)
set_option maxRecDepth 20000 in
theorem gX7_stops_X7_state : GoodIn wsX7_stops (wsV RX7 48 RX7 yX7_state wsX7_state) := goodIn_app (goodIn_of _ (by decide +kernel)) ggX7_stops_X7_state
set_option maxRecDepth 20000 in
theorem ggX7_stops_X7_become : GoodIn wsX7_stops wsX7_become := goodIn_r _ [14, 10, 6, 7, 8, 4, 9, 30, 31, 32, 33, 34, 35, 36, 37, 38, 39] (by decide +kernel) (by decide +kernel)
set_option maxRecDepth 20000 in
theorem gX7_stops_X7_become : GoodIn wsX7_stops (wsV RX7 79 RX7 yX7_become wsX7_become) := goodIn_app (goodIn_of _ (by decide +kernel)) ggX7_stops_X7_become
set_option maxRecDepth 20000 in
theorem ggX7_stops_X7_send : GoodIn wsX7_stops wsX7_send := goodIn_r _ [18, 10, 19, 20, 21, 4, 22, 30, 31, 32, 33, 34, 35, 36, 37, 38, 39] (by decide +kernel) (by decide +kernel)
set_option maxRecDepth 20000 in
theorem gX7_stops_X7_send : GoodIn wsX7_stops (wsV RX7 66 RX7 yX7_send wsX7_send) := goodIn_app (goodIn_of _ (by decide +kernel)) ggX7_stops_X7_send
set_option maxRecDepth 20000 in
theorem ggX7_stops_X7_clearViews : GoodIn wsX7_stops wsX7_clearViews := goodIn_r _ [26, 10, 27, 28, 4, 29, 30, 31, 32, 33, 34, 35, 36, 37, 38, 39] (by decide +kernel) (by decide +kernel)
set_option maxRecDepth 20000 in
theorem gX7_stops_X7_clearViews : GoodIn wsX7_stops (wsV RX7 55 RX7 yX7_clearViews wsX7_clearViews) := goodIn_app (goodIn_of _ (by decide +kernel)) ggX7_stops_X7_clearViews
theorem dX7_stops_0 : decode cX7_stops 0 = .ok (.aload_n 0, 1) := by decide +kernel
theorem dX7_stops_1 : decode cX7_stops 1 = .ok (.iload_n 1, 1) := by decide +kernel
theorem dX7_stops_2 : decode cX7_stops 2 = .ok (.iload_n 2, 1) := by decide +kernel
theorem dX7_stops_3 : decode cX7_stops 3 = .ok (.iconst 5, 1) := by decide +kernel
theorem dX7_stops_4 : decode cX7_stops 4 = .ok (.invokevirtual 73, 3) := by decide +kernel
theorem dX7_stops_7 : decode cX7_stops 7 = .ok (.ifCond .ne 5, 3) := by decide +kernel
theorem dX7_stops_10 : decode cX7_stops 10 = .ok (.iconst 0, 1) := by decide +kernel
theorem dX7_stops_11 : decode cX7_stops 11 = .ok (.ireturn, 1) := by decide +kernel
theorem dX7_stops_12 : decode cX7_stops 12 = .ok (.aload_n 0, 1) := by decide +kernel
theorem dX7_stops_13 : decode cX7_stops 13 = .ok (.iload_n 1, 1) := by decide +kernel
theorem dX7_stops_14 : decode cX7_stops 14 = .ok (.iload_n 2, 1) := by decide +kernel
theorem dX7_stops_15 : decode cX7_stops 15 = .ok (.aload_n 0, 1) := by decide +kernel
theorem dX7_stops_16 : decode cX7_stops 16 = .ok (.iload_n 1, 1) := by decide +kernel
theorem dX7_stops_17 : decode cX7_stops 17 = .ok (.iload_n 2, 1) := by decide +kernel
theorem dX7_stops_18 : decode cX7_stops 18 = .ok (.invokevirtual 48, 3) := by decide +kernel
theorem dX7_stops_21 : decode cX7_stops 21 = .ok (.bipush (-6), 2) := by decide +kernel
theorem dX7_stops_23 : decode cX7_stops 23 = .ok (.iand, 1) := by decide +kernel
theorem dX7_stops_24 : decode cX7_stops 24 = .ok (.invokevirtual 79, 3) := by decide +kernel
theorem dX7_stops_27 : decode cX7_stops 27 = .ok (.aload_n 0, 1) := by decide +kernel
theorem dX7_stops_28 : decode cX7_stops 28 = .ok (.iconst 2, 1) := by decide +kernel
theorem dX7_stops_29 : decode cX7_stops 29 = .ok (.iload_n 1, 1) := by decide +kernel
theorem dX7_stops_30 : decode cX7_stops 30 = .ok (.iload_n 2, 1) := by decide +kernel
theorem dX7_stops_31 : decode cX7_stops 31 = .ok (.iconst 0, 1) := by decide +kernel
theorem dX7_stops_32 : decode cX7_stops 32 = .ok (.iconst 0, 1) := by decide +kernel
theorem dX7_stops_33 : decode cX7_stops 33 = .ok (.invokevirtual 66, 3) := by decide +kernel
theorem dX7_stops_36 : decode cX7_stops 36 = .ok (.aload_n 0, 1) := by decide +kernel
theorem dX7_stops_37 : decode cX7_stops 37 = .ok (.iload_n 1, 1) := by decide +kernel
theorem dX7_stops_38 : decode cX7_stops 38 = .ok (.iload_n 2, 1) := by decide +kernel
theorem dX7_stops_39 : decode cX7_stops 39 = .ok (.invokevirtual 55, 3) := by decide +kernel
theorem dX7_stops_42 : decode cX7_stops 42 = .ok (.iconst 1, 1) := by decide +kernel
theorem dX7_stops_43 : decode cX7_stops 43 = .ok (.ireturn, 1) := by decide +kernel
set_option maxRecDepth 20000 in
theorem ggX7_stop_X7_whyNot : GoodIn wsX7_stop wsX7_whyNot := goodIn_r _ [5, 6, 7, 4, 8, 9, 10, 11] (by decide +kernel) (by decide +kernel)
set_option maxRecDepth 20000 in
theorem gX7_stop_X7_whyNot : GoodIn wsX7_stop (va_wsS RX7 97 yX7_whyNot wsX7_whyNot) := goodIn_app (goodIn_of _ (by decide +kernel)) ggX7_stop_X7_whyNot
set_option maxRecDepth 20000 in
theorem ggX7_stop_X7_keep : GoodIn wsX7_stop wsX7_keep := goodIn_r _ [15, 16, 17, 18, 19, 20, 4, 21, 53, 54, 55, 56, 57, 58, 59, 60, 61, 62] (by decide +kernel) (by decide +kernel)
set_option maxRecDepth 20000 in
theorem gX7_stop_X7_keep : GoodIn wsX7_stop (wsV RX7 100 RX7 yX7_keep wsX7_keep) := goodIn_app (goodIn_of _ (by decide +kernel)) ggX7_stop_X7_keep
set_option maxRecDepth 20000 in
theorem ggX7_stop_X7_stops : GoodIn wsX7_stop wsX7_stops := goodIn_r _ [25, 26, 27, 28, 4, 29, 30, 31, 32, 33, 18, 34, 35, 36, 37, 38, 39, 40, 41, 42, 43, 44, 45, 46, 47, 48, 49, 50, 51, 52, 53, 54, 55, 56, 57, 58, 59, 60, 61, 62] (by decide +kernel) (by decide +kernel)
set_option maxRecDepth 20000 in
theorem gX7_stop_X7_stops : GoodIn wsX7_stop (wsV RX7 112 RX7 yX7_stops wsX7_stops) := goodIn_app (goodIn_of _ (by decide +kernel)) ggX7_stop_X7_stops
theorem dX7_stop_0 : decode cX7_stop 0 = .ok (.aload_n 0, 1) := by decide +kernel
theorem dX7_stop_1 : decode cX7_stop 1 = .ok (.iload_n 1, 1) := by decide +kernel
theorem dX7_stop_2 : decode cX7_stop 2 = .ok (.iload_n 2, 1) := by decide +kernel
theorem dX7_stop_3 : decode cX7_stop 3 = .ok (.invokestatic 97, 3) := by decide +kernel
theorem dX7_stop_6 : decode cX7_stop 6 = .ok (.putfield 25, 3) := by decide +kernel
theorem dX7_stop_9 : decode cX7_stop 9 = .ok (.aload_n 0, 1) := by decide +kernel
theorem dX7_stop_10 : decode cX7_stop 10 = .ok (.getfield 25, 3) := by decide +kernel
theorem dX7_stop_13 : decode cX7_stop 13 = .ok (.ifCond .eq 5, 3) := by decide +kernel
theorem dX7_stop_16 : decode cX7_stop 16 = .ok (.iconst 0, 1) := by decide +kernel
theorem dX7_stop_17 : decode cX7_stop 17 = .ok (.ireturn, 1) := by decide +kernel
theorem dX7_stop_18 : decode cX7_stop 18 = .ok (.aload_n 0, 1) := by decide +kernel
theorem dX7_stop_19 : decode cX7_stop 19 = .ok (.invokevirtual 100, 3) := by decide +kernel
theorem dX7_stop_22 : decode cX7_stop 22 = .ok (.aload_n 0, 1) := by decide +kernel
theorem dX7_stop_23 : decode cX7_stop 23 = .ok (.iload_n 1, 1) := by decide +kernel
theorem dX7_stop_24 : decode cX7_stop 24 = .ok (.iload_n 2, 1) := by decide +kernel
theorem dX7_stop_25 : decode cX7_stop 25 = .ok (.invokevirtual 112, 3) := by decide +kernel
theorem dX7_stop_28 : decode cX7_stop 28 = .ok (.ireturn, 1) := by decide +kernel
set_option maxRecDepth 20000 in
theorem ggX7_block_X7_whyNot : GoodIn wsX7_block wsX7_whyNot := goodIn_r _ [6, 7, 8, 5, 9, 10, 11, 12] (by decide +kernel) (by decide +kernel)
set_option maxRecDepth 20000 in
theorem gX7_block_X7_whyNot : GoodIn wsX7_block (va_wsS RX7 97 yX7_whyNot wsX7_whyNot) := goodIn_app (goodIn_of _ (by decide +kernel)) ggX7_block_X7_whyNot
set_option maxRecDepth 20000 in
theorem ggX7_block_X7_keep : GoodIn wsX7_block wsX7_keep := goodIn_r _ [16, 17, 18, 2, 19, 20, 5, 21, 64, 65, 66, 67, 68, 69, 70, 71, 72, 73] (by decide +kernel) (by decide +kernel)
set_option maxRecDepth 20000 in
theorem gX7_block_X7_keep : GoodIn wsX7_block (wsV RX7 100 RX7 yX7_keep wsX7_keep) := goodIn_app (goodIn_of _ (by decide +kernel)) ggX7_block_X7_keep
set_option maxRecDepth 20000 in
theorem ggX7_block_X7_has : GoodIn wsX7_block wsX7_has := goodIn_r _ [25, 26, 27, 28, 5, 29, 2, 64, 65, 66, 67, 68, 69, 70, 71, 72, 73] (by decide +kernel) (by decide +kernel)
set_option maxRecDepth 20000 in
theorem gX7_block_X7_has : GoodIn wsX7_block (wsV RX7 73 RX7 yX7_has wsX7_has) := goodIn_app (goodIn_of _ (by decide +kernel)) ggX7_block_X7_has
set_option maxRecDepth 20000 in
theorem ggX7_block_X7_hides : GoodIn wsX7_block wsX7_hides := goodIn_r _ [33, 34, 35, 36, 5, 37, 2, 38, 39, 40, 41, 42, 43, 44, 45, 46, 47, 48, 64, 65, 66, 67, 68, 69, 70, 71, 72, 73] (by decide +kernel) (by decide +kernel)
set_option maxRecDepth 20000 in
theorem gX7_block_X7_hides : GoodIn wsX7_block (wsV RX7 83 RX7 yX7_hides wsX7_hides) := goodIn_app (goodIn_of _ (by decide +kernel)) ggX7_block_X7_hides
set_option maxRecDepth 20000 in
theorem ggX7_block_X7_clearViews : GoodIn wsX7_block wsX7_clearViews := goodIn_r _ [52, 2, 53, 54, 5, 55, 64, 65, 66, 67, 68, 69, 70, 71, 72, 73] (by decide +kernel) (by decide +kernel)
set_option maxRecDepth 20000 in
theorem gX7_block_X7_clearViews : GoodIn wsX7_block (wsV RX7 55 RX7 yX7_clearViews wsX7_clearViews) := goodIn_app (goodIn_of _ (by decide +kernel)) ggX7_block_X7_clearViews
set_option maxRecDepth 20000 in
theorem ggX7_block_X7_seatsOn : GoodIn wsX7_block wsX7_seatsOn := goodIn_r _ [59, 2, 38, 39, 5, 40, 64, 65, 66, 67, 68, 69, 70, 71, 72, 73] (by decide +kernel) (by decide +kernel)
set_option maxRecDepth 20000 in
theorem gX7_block_X7_seatsOn : GoodIn wsX7_block (wsV RX7 86 RX7 yX7_seatsOn wsX7_seatsOn) := goodIn_app (goodIn_of _ (by decide +kernel)) ggX7_block_X7_seatsOn
set_option maxRecDepth 20000 in
theorem ggX7_block_X7_send : GoodIn wsX7_block wsX7_send := goodIn_r _ [44, 2, 45, 46, 47, 5, 48, 64, 65, 66, 67, 68, 69, 70, 71, 72, 73] (by decide +kernel) (by decide +kernel)
set_option maxRecDepth 20000 in
theorem gX7_block_X7_send : GoodIn wsX7_block (wsV RX7 66 RX7 yX7_send wsX7_send) := goodIn_app (goodIn_of _ (by decide +kernel)) ggX7_block_X7_send
set_option maxRecDepth 20000 in
theorem ggX7_block_X7_shows : GoodIn wsX7_block wsX7_shows := goodIn_r _ [63, 2, 34, 35, 36, 5, 37, 38, 39, 40, 41, 42, 43, 44, 45, 46, 47, 48, 64, 65, 66, 67, 68, 69, 70, 71, 72, 73] (by decide +kernel) (by decide +kernel)
set_option maxRecDepth 20000 in
theorem gX7_block_X7_shows : GoodIn wsX7_block (wsV RX7 76 RX7 yX7_shows wsX7_shows) := goodIn_app (goodIn_of _ (by decide +kernel)) ggX7_block_X7_shows
theorem dX7_block_0 : decode cX7_block 0 = .ok (.aload_n 0, 1) := by decide +kernel
theorem dX7_block_1 : decode cX7_block 1 = .ok (.iload_n 1, 1) := by decide +kernel
theorem dX7_block_2 : decode cX7_block 2 = .ok (.iload_n 2, 1) := by decide +kernel
theorem dX7_block_3 : decode cX7_block 3 = .ok (.invokestatic 97, 3) := by decide +kernel
theorem dX7_block_6 : decode cX7_block 6 = .ok (.putfield 25, 3) := by decide +kernel
theorem dX7_block_9 : decode cX7_block 9 = .ok (.aload_n 0, 1) := by decide +kernel
theorem dX7_block_10 : decode cX7_block 10 = .ok (.getfield 25, 3) := by decide +kernel
theorem dX7_block_13 : decode cX7_block 13 = .ok (.ifCond .eq 5, 3) := by decide +kernel
theorem dX7_block_16 : decode cX7_block 16 = .ok (.iconst 0, 1) := by decide +kernel
theorem dX7_block_17 : decode cX7_block 17 = .ok (.ireturn, 1) := by decide +kernel
theorem dX7_block_18 : decode cX7_block 18 = .ok (.aload_n 0, 1) := by decide +kernel
theorem dX7_block_19 : decode cX7_block 19 = .ok (.invokevirtual 100, 3) := by decide +kernel
theorem dX7_block_22 : decode cX7_block 22 = .ok (.sipush 240, 3) := by decide +kernel
theorem dX7_block_25 : decode cX7_block 25 = .ok (.bipush 6, 2) := by decide +kernel
theorem dX7_block_27 : decode cX7_block 27 = .ok (.iload_n 1, 1) := by decide +kernel
theorem dX7_block_28 : decode cX7_block 28 = .ok (.imul, 1) := by decide +kernel
theorem dX7_block_29 : decode cX7_block 29 = .ok (.iadd, 1) := by decide +kernel
theorem dX7_block_30 : decode cX7_block 30 = .ok (.iload_n 2, 1) := by decide +kernel
theorem dX7_block_31 : decode cX7_block 31 = .ok (.iadd, 1) := by decide +kernel
theorem dX7_block_32 : decode cX7_block 32 = .ok (.istore 4, 2) := by decide +kernel
theorem dX7_block_34 : decode cX7_block 34 = .ok (.aload_n 0, 1) := by decide +kernel
theorem dX7_block_35 : decode cX7_block 35 = .ok (.getfield 7, 3) := by decide +kernel
theorem dX7_block_38 : decode cX7_block 38 = .ok (.iload 4, 2) := by decide +kernel
theorem dX7_block_40 : decode cX7_block 40 = .ok (.iaload, 1) := by decide +kernel
theorem dX7_block_41 : decode cX7_block 41 = .ok (.iload_n 3, 1) := by decide +kernel
theorem dX7_block_42 : decode cX7_block 42 = .ok (.ifCond .eq 7, 3) := by decide +kernel
theorem dX7_block_45 : decode cX7_block 45 = .ok (.iconst 1, 1) := by decide +kernel
theorem dX7_block_46 : decode cX7_block 46 = .ok (.goto 4, 3) := by decide +kernel
theorem dX7_block_49 : decode cX7_block 49 = .ok (.iconst 0, 1) := by decide +kernel
theorem dX7_block_50 : decode cX7_block 50 = .ok (.if_icmp .ne 5, 3) := by decide +kernel
theorem dX7_block_53 : decode cX7_block 53 = .ok (.iconst 0, 1) := by decide +kernel
theorem dX7_block_54 : decode cX7_block 54 = .ok (.ireturn, 1) := by decide +kernel
theorem dX7_block_55 : decode cX7_block 55 = .ok (.aload_n 0, 1) := by decide +kernel
theorem dX7_block_56 : decode cX7_block 56 = .ok (.iload_n 1, 1) := by decide +kernel
theorem dX7_block_57 : decode cX7_block 57 = .ok (.iload_n 2, 1) := by decide +kernel
theorem dX7_block_58 : decode cX7_block 58 = .ok (.iconst 2, 1) := by decide +kernel
theorem dX7_block_59 : decode cX7_block 59 = .ok (.invokevirtual 73, 3) := by decide +kernel
theorem dX7_block_62 : decode cX7_block 62 = .ok (.istore 5, 2) := by decide +kernel
theorem dX7_block_64 : decode cX7_block 64 = .ok (.iload_n 3, 1) := by decide +kernel
theorem dX7_block_65 : decode cX7_block 65 = .ok (.ifCond .eq 30, 3) := by decide +kernel
theorem dX7_block_68 : decode cX7_block 68 = .ok (.iload 5, 2) := by decide +kernel
theorem dX7_block_70 : decode cX7_block 70 = .ok (.ifCond .eq 9, 3) := by decide +kernel
theorem dX7_block_73 : decode cX7_block 73 = .ok (.aload_n 0, 1) := by decide +kernel
theorem dX7_block_74 : decode cX7_block 74 = .ok (.iload_n 1, 1) := by decide +kernel
theorem dX7_block_75 : decode cX7_block 75 = .ok (.iload_n 2, 1) := by decide +kernel
theorem dX7_block_76 : decode cX7_block 76 = .ok (.invokevirtual 83, 3) := by decide +kernel
theorem dX7_block_79 : decode cX7_block 79 = .ok (.aload_n 0, 1) := by decide +kernel
theorem dX7_block_80 : decode cX7_block 80 = .ok (.getfield 7, 3) := by decide +kernel
theorem dX7_block_83 : decode cX7_block 83 = .ok (.iload 4, 2) := by decide +kernel
theorem dX7_block_85 : decode cX7_block 85 = .ok (.iconst 1, 1) := by decide +kernel
theorem dX7_block_86 : decode cX7_block 86 = .ok (.iastore, 1) := by decide +kernel
theorem dX7_block_87 : decode cX7_block 87 = .ok (.aload_n 0, 1) := by decide +kernel
theorem dX7_block_88 : decode cX7_block 88 = .ok (.iload_n 1, 1) := by decide +kernel
theorem dX7_block_89 : decode cX7_block 89 = .ok (.iload_n 2, 1) := by decide +kernel
theorem dX7_block_90 : decode cX7_block 90 = .ok (.invokevirtual 55, 3) := by decide +kernel
theorem dX7_block_93 : decode cX7_block 93 = .ok (.iconst 1, 1) := by decide +kernel
theorem dX7_block_94 : decode cX7_block 94 = .ok (.ireturn, 1) := by decide +kernel
theorem dX7_block_95 : decode cX7_block 95 = .ok (.aload_n 0, 1) := by decide +kernel
theorem dX7_block_96 : decode cX7_block 96 = .ok (.getfield 7, 3) := by decide +kernel
theorem dX7_block_99 : decode cX7_block 99 = .ok (.iload 4, 2) := by decide +kernel
theorem dX7_block_101 : decode cX7_block 101 = .ok (.iconst 0, 1) := by decide +kernel
theorem dX7_block_102 : decode cX7_block 102 = .ok (.iastore, 1) := by decide +kernel
theorem dX7_block_103 : decode cX7_block 103 = .ok (.aload_n 0, 1) := by decide +kernel
theorem dX7_block_104 : decode cX7_block 104 = .ok (.iload_n 1, 1) := by decide +kernel
theorem dX7_block_105 : decode cX7_block 105 = .ok (.iload_n 2, 1) := by decide +kernel
theorem dX7_block_106 : decode cX7_block 106 = .ok (.iconst 1, 1) := by decide +kernel
theorem dX7_block_107 : decode cX7_block 107 = .ok (.invokevirtual 73, 3) := by decide +kernel
theorem dX7_block_110 : decode cX7_block 110 = .ok (.ifCond .eq 21, 3) := by decide +kernel
theorem dX7_block_113 : decode cX7_block 113 = .ok (.aload_n 0, 1) := by decide +kernel
theorem dX7_block_114 : decode cX7_block 114 = .ok (.iload_n 1, 1) := by decide +kernel
theorem dX7_block_115 : decode cX7_block 115 = .ok (.invokevirtual 86, 3) := by decide +kernel
theorem dX7_block_118 : decode cX7_block 118 = .ok (.ifCond .le 13, 3) := by decide +kernel
theorem dX7_block_121 : decode cX7_block 121 = .ok (.aload_n 0, 1) := by decide +kernel
theorem dX7_block_122 : decode cX7_block 122 = .ok (.bipush 6, 2) := by decide +kernel
theorem dX7_block_124 : decode cX7_block 124 = .ok (.iload_n 1, 1) := by decide +kernel
theorem dX7_block_125 : decode cX7_block 125 = .ok (.iload_n 2, 1) := by decide +kernel
theorem dX7_block_126 : decode cX7_block 126 = .ok (.iconst 0, 1) := by decide +kernel
theorem dX7_block_127 : decode cX7_block 127 = .ok (.iconst 0, 1) := by decide +kernel
theorem dX7_block_128 : decode cX7_block 128 = .ok (.invokevirtual 66, 3) := by decide +kernel
theorem dX7_block_131 : decode cX7_block 131 = .ok (.iload 5, 2) := by decide +kernel
theorem dX7_block_133 : decode cX7_block 133 = .ok (.ifCond .eq 9, 3) := by decide +kernel
theorem dX7_block_136 : decode cX7_block 136 = .ok (.aload_n 0, 1) := by decide +kernel
theorem dX7_block_137 : decode cX7_block 137 = .ok (.iload_n 1, 1) := by decide +kernel
theorem dX7_block_138 : decode cX7_block 138 = .ok (.iload_n 2, 1) := by decide +kernel
theorem dX7_block_139 : decode cX7_block 139 = .ok (.invokevirtual 76, 3) := by decide +kernel
theorem dX7_block_142 : decode cX7_block 142 = .ok (.iconst 1, 1) := by decide +kernel
theorem dX7_block_143 : decode cX7_block 143 = .ok (.ireturn, 1) := by decide +kernel
set_option maxRecDepth 20000 in
theorem ggX7_turnsOn_X7_seatsOn : GoodIn wsX7_turnsOn wsX7_seatsOn := goodIn_r _ [6, 1, 7, 8, 5, 9, 37, 38, 39, 40, 41, 42, 43, 44, 45, 46] (by decide +kernel) (by decide +kernel)
set_option maxRecDepth 20000 in
theorem gX7_turnsOn_X7_seatsOn : GoodIn wsX7_turnsOn (wsV RX7 86 RX7 yX7_seatsOn wsX7_seatsOn) := goodIn_app (goodIn_of _ (by decide +kernel)) ggX7_turnsOn_X7_seatsOn
set_option maxRecDepth 20000 in
theorem ggX7_turnsOn_X7_seatCell : GoodIn wsX7_turnsOn wsX7_seatCell := goodIn_r _ [9] (by decide +kernel) (by decide +kernel)
set_option maxRecDepth 20000 in
theorem gX7_turnsOn_X7_seatCell : GoodIn wsX7_turnsOn (va_wsS RX7 44 yX7_seatCell wsX7_seatCell) := goodIn_app (goodIn_of _ (by decide +kernel)) ggX7_turnsOn_X7_seatCell
set_option maxRecDepth 20000 in
theorem ggX7_turnsOn_X7_clearAllViews : GoodIn wsX7_turnsOn wsX7_clearAllViews := goodIn_r _ [13, 14, 15, 16, 5, 17, 1, 18, 19, 20, 37, 38, 39, 40, 41, 42, 43, 44, 45, 46] (by decide +kernel) (by decide +kernel)
set_option maxRecDepth 20000 in
theorem gX7_turnsOn_X7_clearAllViews : GoodIn wsX7_turnsOn (wsV RX7 115 RX7 yX7_clearAllViews wsX7_clearAllViews) := goodIn_app (goodIn_of _ (by decide +kernel)) ggX7_turnsOn_X7_clearAllViews
set_option maxRecDepth 20000 in
theorem ggX7_turnsOn_X7_has : GoodIn wsX7_turnsOn wsX7_has := goodIn_r _ [24, 25, 26, 27, 5, 28, 1, 37, 38, 39, 40, 41, 42, 43, 44, 45, 46] (by decide +kernel) (by decide +kernel)
set_option maxRecDepth 20000 in
theorem gX7_turnsOn_X7_has : GoodIn wsX7_turnsOn (wsV RX7 73 RX7 yX7_has wsX7_has) := goodIn_app (goodIn_of _ (by decide +kernel)) ggX7_turnsOn_X7_has
set_option maxRecDepth 20000 in
theorem ggX7_turnsOn_X7_send : GoodIn wsX7_turnsOn wsX7_send := goodIn_r _ [32, 1, 33, 34, 35, 5, 36, 37, 38, 39, 40, 41, 42, 43, 44, 45, 46] (by decide +kernel) (by decide +kernel)
set_option maxRecDepth 20000 in
theorem gX7_turnsOn_X7_send : GoodIn wsX7_turnsOn (wsV RX7 66 RX7 yX7_send wsX7_send) := goodIn_app (goodIn_of _ (by decide +kernel)) ggX7_turnsOn_X7_send
theorem dX7_turnsOn_0 : decode cX7_turnsOn 0 = .ok (.aload_n 0, 1) := by decide +kernel
theorem dX7_turnsOn_1 : decode cX7_turnsOn 1 = .ok (.iload_n 1, 1) := by decide +kernel
theorem dX7_turnsOn_2 : decode cX7_turnsOn 2 = .ok (.invokevirtual 86, 3) := by decide +kernel
theorem dX7_turnsOn_5 : decode cX7_turnsOn 5 = .ok (.ifCond .le 7, 3) := by decide +kernel
theorem dX7_turnsOn_8 : decode cX7_turnsOn 8 = .ok (.iconst 1, 1) := by decide +kernel
theorem dX7_turnsOn_9 : decode cX7_turnsOn 9 = .ok (.goto 4, 3) := by decide +kernel
theorem dX7_turnsOn_12 : decode cX7_turnsOn 12 = .ok (.iconst 0, 1) := by decide +kernel
theorem dX7_turnsOn_13 : decode cX7_turnsOn 13 = .ok (.istore 5, 2) := by decide +kernel
theorem dX7_turnsOn_15 : decode cX7_turnsOn 15 = .ok (.iload_n 1, 1) := by decide +kernel
theorem dX7_turnsOn_16 : decode cX7_turnsOn 16 = .ok (.iload_n 2, 1) := by decide +kernel
theorem dX7_turnsOn_17 : decode cX7_turnsOn 17 = .ok (.invokestatic 44, 3) := by decide +kernel
theorem dX7_turnsOn_20 : decode cX7_turnsOn 20 = .ok (.istore 6, 2) := by decide +kernel
theorem dX7_turnsOn_22 : decode cX7_turnsOn 22 = .ok (.aload_n 0, 1) := by decide +kernel
theorem dX7_turnsOn_23 : decode cX7_turnsOn 23 = .ok (.getfield 7, 3) := by decide +kernel
theorem dX7_turnsOn_26 : decode cX7_turnsOn 26 = .ok (.iload 6, 2) := by decide +kernel
theorem dX7_turnsOn_28 : decode cX7_turnsOn 28 = .ok (.iconst 1, 1) := by decide +kernel
theorem dX7_turnsOn_29 : decode cX7_turnsOn 29 = .ok (.iastore, 1) := by decide +kernel
theorem dX7_turnsOn_30 : decode cX7_turnsOn 30 = .ok (.aload_n 0, 1) := by decide +kernel
theorem dX7_turnsOn_31 : decode cX7_turnsOn 31 = .ok (.getfield 7, 3) := by decide +kernel
theorem dX7_turnsOn_34 : decode cX7_turnsOn 34 = .ok (.iload 6, 2) := by decide +kernel
theorem dX7_turnsOn_36 : decode cX7_turnsOn 36 = .ok (.iconst 1, 1) := by decide +kernel
theorem dX7_turnsOn_37 : decode cX7_turnsOn 37 = .ok (.iadd, 1) := by decide +kernel
theorem dX7_turnsOn_38 : decode cX7_turnsOn 38 = .ok (.iload_n 3, 1) := by decide +kernel
theorem dX7_turnsOn_39 : decode cX7_turnsOn 39 = .ok (.iastore, 1) := by decide +kernel
theorem dX7_turnsOn_40 : decode cX7_turnsOn 40 = .ok (.aload_n 0, 1) := by decide +kernel
theorem dX7_turnsOn_41 : decode cX7_turnsOn 41 = .ok (.getfield 7, 3) := by decide +kernel
theorem dX7_turnsOn_44 : decode cX7_turnsOn 44 = .ok (.iload 6, 2) := by decide +kernel
theorem dX7_turnsOn_46 : decode cX7_turnsOn 46 = .ok (.iconst 2, 1) := by decide +kernel
theorem dX7_turnsOn_47 : decode cX7_turnsOn 47 = .ok (.iadd, 1) := by decide +kernel
theorem dX7_turnsOn_48 : decode cX7_turnsOn 48 = .ok (.iload 4, 2) := by decide +kernel
theorem dX7_turnsOn_50 : decode cX7_turnsOn 50 = .ok (.iastore, 1) := by decide +kernel
theorem dX7_turnsOn_51 : decode cX7_turnsOn 51 = .ok (.iload 5, 2) := by decide +kernel
theorem dX7_turnsOn_53 : decode cX7_turnsOn 53 = .ok (.ifCond .ne 46, 3) := by decide +kernel
theorem dX7_turnsOn_56 : decode cX7_turnsOn 56 = .ok (.aload_n 0, 1) := by decide +kernel
theorem dX7_turnsOn_57 : decode cX7_turnsOn 57 = .ok (.iload_n 1, 1) := by decide +kernel
theorem dX7_turnsOn_58 : decode cX7_turnsOn 58 = .ok (.invokevirtual 115, 3) := by decide +kernel
theorem dX7_turnsOn_61 : decode cX7_turnsOn 61 = .ok (.iconst 0, 1) := by decide +kernel
theorem dX7_turnsOn_62 : decode cX7_turnsOn 62 = .ok (.istore 7, 2) := by decide +kernel
theorem dX7_turnsOn_64 : decode cX7_turnsOn 64 = .ok (.iload 7, 2) := by decide +kernel
theorem dX7_turnsOn_66 : decode cX7_turnsOn 66 = .ok (.bipush 6, 2) := by decide +kernel
theorem dX7_turnsOn_68 : decode cX7_turnsOn 68 = .ok (.if_icmp .ge 31, 3) := by decide +kernel
theorem dX7_turnsOn_71 : decode cX7_turnsOn 71 = .ok (.aload_n 0, 1) := by decide +kernel
theorem dX7_turnsOn_72 : decode cX7_turnsOn 72 = .ok (.iload_n 1, 1) := by decide +kernel
theorem dX7_turnsOn_73 : decode cX7_turnsOn 73 = .ok (.iload 7, 2) := by decide +kernel
theorem dX7_turnsOn_75 : decode cX7_turnsOn 75 = .ok (.iconst 1, 1) := by decide +kernel
theorem dX7_turnsOn_76 : decode cX7_turnsOn 76 = .ok (.invokevirtual 73, 3) := by decide +kernel
theorem dX7_turnsOn_79 : decode cX7_turnsOn 79 = .ok (.ifCond .eq 14, 3) := by decide +kernel
theorem dX7_turnsOn_82 : decode cX7_turnsOn 82 = .ok (.aload_n 0, 1) := by decide +kernel
theorem dX7_turnsOn_83 : decode cX7_turnsOn 83 = .ok (.bipush 6, 2) := by decide +kernel
theorem dX7_turnsOn_85 : decode cX7_turnsOn 85 = .ok (.iload_n 1, 1) := by decide +kernel
theorem dX7_turnsOn_86 : decode cX7_turnsOn 86 = .ok (.iload 7, 2) := by decide +kernel
theorem dX7_turnsOn_88 : decode cX7_turnsOn 88 = .ok (.iconst 0, 1) := by decide +kernel
theorem dX7_turnsOn_89 : decode cX7_turnsOn 89 = .ok (.iconst 0, 1) := by decide +kernel
theorem dX7_turnsOn_90 : decode cX7_turnsOn 90 = .ok (.invokevirtual 66, 3) := by decide +kernel
theorem dX7_turnsOn_93 : decode cX7_turnsOn 93 = .ok (.iinc 7 1, 3) := by decide +kernel
theorem dX7_turnsOn_96 : decode cX7_turnsOn 96 = .ok (.goto (-32), 3) := by decide +kernel
theorem dX7_turnsOn_99 : decode cX7_turnsOn 99 = .ok (.iconst 0, 1) := by decide +kernel
theorem dX7_turnsOn_100 : decode cX7_turnsOn 100 = .ok (.istore 7, 2) := by decide +kernel
theorem dX7_turnsOn_102 : decode cX7_turnsOn 102 = .ok (.iload 7, 2) := by decide +kernel
theorem dX7_turnsOn_104 : decode cX7_turnsOn 104 = .ok (.bipush 6, 2) := by decide +kernel
theorem dX7_turnsOn_106 : decode cX7_turnsOn 106 = .ok (.if_icmp .ge 31, 3) := by decide +kernel
theorem dX7_turnsOn_109 : decode cX7_turnsOn 109 = .ok (.aload_n 0, 1) := by decide +kernel
theorem dX7_turnsOn_110 : decode cX7_turnsOn 110 = .ok (.iload_n 1, 1) := by decide +kernel
theorem dX7_turnsOn_111 : decode cX7_turnsOn 111 = .ok (.iload 7, 2) := by decide +kernel
theorem dX7_turnsOn_113 : decode cX7_turnsOn 113 = .ok (.iconst 2, 1) := by decide +kernel
theorem dX7_turnsOn_114 : decode cX7_turnsOn 114 = .ok (.invokevirtual 73, 3) := by decide +kernel
theorem dX7_turnsOn_117 : decode cX7_turnsOn 117 = .ok (.ifCond .eq 14, 3) := by decide +kernel
theorem dX7_turnsOn_120 : decode cX7_turnsOn 120 = .ok (.aload_n 0, 1) := by decide +kernel
theorem dX7_turnsOn_121 : decode cX7_turnsOn 121 = .ok (.iconst 4, 1) := by decide +kernel
theorem dX7_turnsOn_122 : decode cX7_turnsOn 122 = .ok (.iload_n 1, 1) := by decide +kernel
theorem dX7_turnsOn_123 : decode cX7_turnsOn 123 = .ok (.iload 7, 2) := by decide +kernel
theorem dX7_turnsOn_125 : decode cX7_turnsOn 125 = .ok (.iload_n 2, 1) := by decide +kernel
theorem dX7_turnsOn_126 : decode cX7_turnsOn 126 = .ok (.iload 4, 2) := by decide +kernel
theorem dX7_turnsOn_128 : decode cX7_turnsOn 128 = .ok (.invokevirtual 66, 3) := by decide +kernel
theorem dX7_turnsOn_131 : decode cX7_turnsOn 131 = .ok (.iinc 7 1, 3) := by decide +kernel
theorem dX7_turnsOn_134 : decode cX7_turnsOn 134 = .ok (.goto (-32), 3) := by decide +kernel
theorem dX7_turnsOn_137 : decode cX7_turnsOn 137 = .ok (.aload_n 0, 1) := by decide +kernel
theorem dX7_turnsOn_138 : decode cX7_turnsOn 138 = .ok (.iload_n 1, 1) := by decide +kernel
theorem dX7_turnsOn_139 : decode cX7_turnsOn 139 = .ok (.invokevirtual 86, 3) := by decide +kernel
theorem dX7_turnsOn_142 : decode cX7_turnsOn 142 = .ok (.ireturn, 1) := by decide +kernel
set_option maxRecDepth 20000 in
theorem ggX7_isSeat_X7_isUser : GoodIn wsX7_isSeat wsX7_isUser := goodIn_r _ [4, 5, 6, 3, 7] (by decide +kernel) (by decide +kernel)
set_option maxRecDepth 20000 in
theorem gX7_isSeat_X7_isUser : GoodIn wsX7_isSeat (va_wsS RX7 40 yX7_isUser wsX7_isUser) := goodIn_app (goodIn_of _ (by decide +kernel)) ggX7_isSeat_X7_isUser
set_option maxRecDepth 20000 in
theorem ggX7_isSeat_X7_in : GoodIn wsX7_isSeat wsX7_in := goodIn_r _ [7] (by decide +kernel) (by decide +kernel)
set_option maxRecDepth 20000 in
theorem gX7_isSeat_X7_in : GoodIn wsX7_isSeat (va_wsS RX7 36 yX7_in wsX7_in) := goodIn_app (goodIn_of _ (by decide +kernel)) ggX7_isSeat_X7_in
theorem dX7_isSeat_0 : decode cX7_isSeat 0 = .ok (.iload_n 0, 1) := by decide +kernel
theorem dX7_isSeat_1 : decode cX7_isSeat 1 = .ok (.invokestatic 40, 3) := by decide +kernel
theorem dX7_isSeat_4 : decode cX7_isSeat 4 = .ok (.ifCond .eq 16, 3) := by decide +kernel
theorem dX7_isSeat_7 : decode cX7_isSeat 7 = .ok (.iload_n 1, 1) := by decide +kernel
theorem dX7_isSeat_8 : decode cX7_isSeat 8 = .ok (.iconst 0, 1) := by decide +kernel
theorem dX7_isSeat_9 : decode cX7_isSeat 9 = .ok (.iconst 2, 1) := by decide +kernel
theorem dX7_isSeat_10 : decode cX7_isSeat 10 = .ok (.invokestatic 36, 3) := by decide +kernel
theorem dX7_isSeat_13 : decode cX7_isSeat 13 = .ok (.ifCond .eq 7, 3) := by decide +kernel
theorem dX7_isSeat_16 : decode cX7_isSeat 16 = .ok (.iconst 1, 1) := by decide +kernel
theorem dX7_isSeat_17 : decode cX7_isSeat 17 = .ok (.goto 4, 3) := by decide +kernel
theorem dX7_isSeat_20 : decode cX7_isSeat 20 = .ok (.iconst 0, 1) := by decide +kernel
theorem dX7_isSeat_21 : decode cX7_isSeat 21 = .ok (.ireturn, 1) := by decide +kernel
set_option maxRecDepth 20000 in
theorem ggX7_turnOn_X7_isSeat : GoodIn wsX7_turnOn wsX7_isSeat := goodIn_r _ [5, 6, 7, 4, 8, 9, 10, 11] (by decide +kernel) (by decide +kernel)
set_option maxRecDepth 20000 in
theorem gX7_turnOn_X7_isSeat : GoodIn wsX7_turnOn (va_wsS RX7 118 yX7_isSeat wsX7_isSeat) := goodIn_app (goodIn_of _ (by decide +kernel)) ggX7_turnOn_X7_isSeat
set_option maxRecDepth 20000 in
theorem ggX7_turnOn_X7_in : GoodIn wsX7_turnOn wsX7_in := goodIn_r _ [11] (by decide +kernel) (by decide +kernel)
set_option maxRecDepth 20000 in
theorem gX7_turnOn_X7_in : GoodIn wsX7_turnOn (va_wsS RX7 36 yX7_in wsX7_in) := goodIn_app (goodIn_of _ (by decide +kernel)) ggX7_turnOn_X7_in
set_option maxRecDepth 20000 in
theorem ggX7_turnOn_X7_keep : GoodIn wsX7_turnOn wsX7_keep := goodIn_r _ [15, 16, 17, 18, 19, 20, 4, 21, 60, 61, 62, 63, 64, 65, 66, 67, 68, 69] (by decide +kernel) (by decide +kernel)
set_option maxRecDepth 20000 in
theorem gX7_turnOn_X7_keep : GoodIn wsX7_turnOn (wsV RX7 100 RX7 yX7_keep wsX7_keep) := goodIn_app (goodIn_of _ (by decide +kernel)) ggX7_turnOn_X7_keep
set_option maxRecDepth 20000 in
theorem ggX7_turnOn_X7_turnsOn : GoodIn wsX7_turnOn wsX7_turnsOn := goodIn_r _ [25, 18, 26, 27, 28, 4, 29, 30, 31, 32, 33, 34, 35, 36, 37, 38, 39, 40, 41, 42, 43, 44, 45, 46, 47, 48, 49, 50, 51, 52, 53, 54, 55, 56, 57, 58, 59, 60, 61, 62, 63, 64, 65, 66, 67, 68, 69] (by decide +kernel) (by decide +kernel)
set_option maxRecDepth 20000 in
theorem gX7_turnOn_X7_turnsOn : GoodIn wsX7_turnOn (wsV RX7 121 RX7 yX7_turnsOn wsX7_turnsOn) := goodIn_app (goodIn_of _ (by decide +kernel)) ggX7_turnOn_X7_turnsOn
theorem dX7_turnOn_0 : decode cX7_turnOn 0 = .ok (.aload_n 0, 1) := by decide +kernel
theorem dX7_turnOn_1 : decode cX7_turnOn 1 = .ok (.iload_n 1, 1) := by decide +kernel
theorem dX7_turnOn_2 : decode cX7_turnOn 2 = .ok (.iload_n 2, 1) := by decide +kernel
theorem dX7_turnOn_3 : decode cX7_turnOn 3 = .ok (.invokestatic 118, 3) := by decide +kernel
theorem dX7_turnOn_6 : decode cX7_turnOn 6 = .ok (.ifCond .ne 7, 3) := by decide +kernel
theorem dX7_turnOn_9 : decode cX7_turnOn 9 = .ok (.iconst 1, 1) := by decide +kernel
theorem dX7_turnOn_10 : decode cX7_turnOn 10 = .ok (.goto 29, 3) := by decide +kernel
theorem dX7_turnOn_13 : decode cX7_turnOn 13 = .ok (.iload_n 3, 1) := by decide +kernel
theorem dX7_turnOn_14 : decode cX7_turnOn 14 = .ok (.bipush (-9), 2) := by decide +kernel
theorem dX7_turnOn_16 : decode cX7_turnOn 16 = .ok (.bipush 9, 2) := by decide +kernel
theorem dX7_turnOn_18 : decode cX7_turnOn 18 = .ok (.invokestatic 36, 3) := by decide +kernel
theorem dX7_turnOn_21 : decode cX7_turnOn 21 = .ok (.ifCond .eq 17, 3) := by decide +kernel
theorem dX7_turnOn_24 : decode cX7_turnOn 24 = .ok (.iload 4, 2) := by decide +kernel
theorem dX7_turnOn_26 : decode cX7_turnOn 26 = .ok (.iconst 0, 1) := by decide +kernel
theorem dX7_turnOn_27 : decode cX7_turnOn 27 = .ok (.iconst 4, 1) := by decide +kernel
theorem dX7_turnOn_28 : decode cX7_turnOn 28 = .ok (.invokestatic 36, 3) := by decide +kernel
theorem dX7_turnOn_31 : decode cX7_turnOn 31 = .ok (.ifCond .eq 7, 3) := by decide +kernel
theorem dX7_turnOn_34 : decode cX7_turnOn 34 = .ok (.iconst 0, 1) := by decide +kernel
theorem dX7_turnOn_35 : decode cX7_turnOn 35 = .ok (.goto 4, 3) := by decide +kernel
theorem dX7_turnOn_38 : decode cX7_turnOn 38 = .ok (.iconst 2, 1) := by decide +kernel
theorem dX7_turnOn_39 : decode cX7_turnOn 39 = .ok (.putfield 25, 3) := by decide +kernel
theorem dX7_turnOn_42 : decode cX7_turnOn 42 = .ok (.aload_n 0, 1) := by decide +kernel
theorem dX7_turnOn_43 : decode cX7_turnOn 43 = .ok (.getfield 25, 3) := by decide +kernel
theorem dX7_turnOn_46 : decode cX7_turnOn 46 = .ok (.ifCond .eq 5, 3) := by decide +kernel
theorem dX7_turnOn_49 : decode cX7_turnOn 49 = .ok (.iconst 0, 1) := by decide +kernel
theorem dX7_turnOn_50 : decode cX7_turnOn 50 = .ok (.ireturn, 1) := by decide +kernel
theorem dX7_turnOn_51 : decode cX7_turnOn 51 = .ok (.aload_n 0, 1) := by decide +kernel
theorem dX7_turnOn_52 : decode cX7_turnOn 52 = .ok (.invokevirtual 100, 3) := by decide +kernel
theorem dX7_turnOn_55 : decode cX7_turnOn 55 = .ok (.aload_n 0, 1) := by decide +kernel
theorem dX7_turnOn_56 : decode cX7_turnOn 56 = .ok (.iload_n 1, 1) := by decide +kernel
theorem dX7_turnOn_57 : decode cX7_turnOn 57 = .ok (.iload_n 2, 1) := by decide +kernel
theorem dX7_turnOn_58 : decode cX7_turnOn 58 = .ok (.iload_n 3, 1) := by decide +kernel
theorem dX7_turnOn_59 : decode cX7_turnOn 59 = .ok (.iload 4, 2) := by decide +kernel
theorem dX7_turnOn_61 : decode cX7_turnOn 61 = .ok (.invokevirtual 121, 3) := by decide +kernel
theorem dX7_turnOn_64 : decode cX7_turnOn 64 = .ok (.ireturn, 1) := by decide +kernel
set_option maxRecDepth 20000 in
theorem ggX7_turnsOff_X7_seatCell : GoodIn wsX7_turnsOff wsX7_seatCell := goodIn_r _ [5] (by decide +kernel) (by decide +kernel)
set_option maxRecDepth 20000 in
theorem gX7_turnsOff_X7_seatCell : GoodIn wsX7_turnsOff (va_wsS RX7 44 yX7_seatCell wsX7_seatCell) := goodIn_app (goodIn_of _ (by decide +kernel)) ggX7_turnsOff_X7_seatCell
set_option maxRecDepth 20000 in
theorem ggX7_turnsOff_X7_has : GoodIn wsX7_turnsOff wsX7_has := goodIn_r _ [9, 10, 11, 12, 4, 13, 1, 37, 38, 39, 40, 41, 42, 43, 44, 45, 46] (by decide +kernel) (by decide +kernel)
set_option maxRecDepth 20000 in
theorem gX7_turnsOff_X7_has : GoodIn wsX7_turnsOff (wsV RX7 73 RX7 yX7_has wsX7_has) := goodIn_app (goodIn_of _ (by decide +kernel)) ggX7_turnsOff_X7_has
set_option maxRecDepth 20000 in
theorem ggX7_turnsOff_X7_send : GoodIn wsX7_turnsOff wsX7_send := goodIn_r _ [17, 1, 18, 19, 20, 4, 21, 37, 38, 39, 40, 41, 42, 43, 44, 45, 46] (by decide +kernel) (by decide +kernel)
set_option maxRecDepth 20000 in
theorem gX7_turnsOff_X7_send : GoodIn wsX7_turnsOff (wsV RX7 66 RX7 yX7_send wsX7_send) := goodIn_app (goodIn_of _ (by decide +kernel)) ggX7_turnsOff_X7_send
set_option maxRecDepth 20000 in
theorem ggX7_turnsOff_X7_seatsOn : GoodIn wsX7_turnsOff wsX7_seatsOn := goodIn_r _ [25, 1, 2, 3, 4, 5, 37, 38, 39, 40, 41, 42, 43, 44, 45, 46] (by decide +kernel) (by decide +kernel)
set_option maxRecDepth 20000 in
theorem gX7_turnsOff_X7_seatsOn : GoodIn wsX7_turnsOff (wsV RX7 86 RX7 yX7_seatsOn wsX7_seatsOn) := goodIn_app (goodIn_of _ (by decide +kernel)) ggX7_turnsOff_X7_seatsOn
set_option maxRecDepth 20000 in
theorem ggX7_turnsOff_X7_clearAllViews : GoodIn wsX7_turnsOff wsX7_clearAllViews := goodIn_r _ [29, 30, 31, 32, 4, 33, 1, 34, 35, 36, 37, 38, 39, 40, 41, 42, 43, 44, 45, 46] (by decide +kernel) (by decide +kernel)
set_option maxRecDepth 20000 in
theorem gX7_turnsOff_X7_clearAllViews : GoodIn wsX7_turnsOff (wsV RX7 115 RX7 yX7_clearAllViews wsX7_clearAllViews) := goodIn_app (goodIn_of _ (by decide +kernel)) ggX7_turnsOff_X7_clearAllViews
theorem dX7_turnsOff_0 : decode cX7_turnsOff 0 = .ok (.aload_n 0, 1) := by decide +kernel
theorem dX7_turnsOff_1 : decode cX7_turnsOff 1 = .ok (.getfield 7, 3) := by decide +kernel
theorem dX7_turnsOff_4 : decode cX7_turnsOff 4 = .ok (.iload_n 1, 1) := by decide +kernel
theorem dX7_turnsOff_5 : decode cX7_turnsOff 5 = .ok (.iload_n 2, 1) := by decide +kernel
theorem dX7_turnsOff_6 : decode cX7_turnsOff 6 = .ok (.invokestatic 44, 3) := by decide +kernel
theorem dX7_turnsOff_9 : decode cX7_turnsOff 9 = .ok (.iconst 0, 1) := by decide +kernel
theorem dX7_turnsOff_10 : decode cX7_turnsOff 10 = .ok (.iastore, 1) := by decide +kernel
theorem dX7_turnsOff_11 : decode cX7_turnsOff 11 = .ok (.iconst 0, 1) := by decide +kernel
theorem dX7_turnsOff_12 : decode cX7_turnsOff 12 = .ok (.istore_n 3, 1) := by decide +kernel
theorem dX7_turnsOff_13 : decode cX7_turnsOff 13 = .ok (.iload_n 3, 1) := by decide +kernel
theorem dX7_turnsOff_14 : decode cX7_turnsOff 14 = .ok (.bipush 6, 2) := by decide +kernel
theorem dX7_turnsOff_16 : decode cX7_turnsOff 16 = .ok (.if_icmp .ge 28, 3) := by decide +kernel
theorem dX7_turnsOff_19 : decode cX7_turnsOff 19 = .ok (.aload_n 0, 1) := by decide +kernel
theorem dX7_turnsOff_20 : decode cX7_turnsOff 20 = .ok (.iload_n 1, 1) := by decide +kernel
theorem dX7_turnsOff_21 : decode cX7_turnsOff 21 = .ok (.iload_n 3, 1) := by decide +kernel
theorem dX7_turnsOff_22 : decode cX7_turnsOff 22 = .ok (.iconst 2, 1) := by decide +kernel
theorem dX7_turnsOff_23 : decode cX7_turnsOff 23 = .ok (.invokevirtual 73, 3) := by decide +kernel
theorem dX7_turnsOff_26 : decode cX7_turnsOff 26 = .ok (.ifCond .eq 12, 3) := by decide +kernel
theorem dX7_turnsOff_29 : decode cX7_turnsOff 29 = .ok (.aload_n 0, 1) := by decide +kernel
theorem dX7_turnsOff_30 : decode cX7_turnsOff 30 = .ok (.iconst 5, 1) := by decide +kernel
theorem dX7_turnsOff_31 : decode cX7_turnsOff 31 = .ok (.iload_n 1, 1) := by decide +kernel
theorem dX7_turnsOff_32 : decode cX7_turnsOff 32 = .ok (.iload_n 3, 1) := by decide +kernel
theorem dX7_turnsOff_33 : decode cX7_turnsOff 33 = .ok (.iload_n 2, 1) := by decide +kernel
theorem dX7_turnsOff_34 : decode cX7_turnsOff 34 = .ok (.iconst 0, 1) := by decide +kernel
theorem dX7_turnsOff_35 : decode cX7_turnsOff 35 = .ok (.invokevirtual 66, 3) := by decide +kernel
theorem dX7_turnsOff_38 : decode cX7_turnsOff 38 = .ok (.iinc 3 1, 3) := by decide +kernel
theorem dX7_turnsOff_41 : decode cX7_turnsOff 41 = .ok (.goto (-28), 3) := by decide +kernel
theorem dX7_turnsOff_44 : decode cX7_turnsOff 44 = .ok (.aload_n 0, 1) := by decide +kernel
theorem dX7_turnsOff_45 : decode cX7_turnsOff 45 = .ok (.iload_n 1, 1) := by decide +kernel
theorem dX7_turnsOff_46 : decode cX7_turnsOff 46 = .ok (.invokevirtual 86, 3) := by decide +kernel
theorem dX7_turnsOff_49 : decode cX7_turnsOff 49 = .ok (.ifCond .ne 8, 3) := by decide +kernel
theorem dX7_turnsOff_52 : decode cX7_turnsOff 52 = .ok (.aload_n 0, 1) := by decide +kernel
theorem dX7_turnsOff_53 : decode cX7_turnsOff 53 = .ok (.iload_n 1, 1) := by decide +kernel
theorem dX7_turnsOff_54 : decode cX7_turnsOff 54 = .ok (.invokevirtual 115, 3) := by decide +kernel
theorem dX7_turnsOff_57 : decode cX7_turnsOff 57 = .ok (.aload_n 0, 1) := by decide +kernel
theorem dX7_turnsOff_58 : decode cX7_turnsOff 58 = .ok (.iload_n 1, 1) := by decide +kernel
theorem dX7_turnsOff_59 : decode cX7_turnsOff 59 = .ok (.invokevirtual 86, 3) := by decide +kernel
theorem dX7_turnsOff_62 : decode cX7_turnsOff 62 = .ok (.ireturn, 1) := by decide +kernel
set_option maxRecDepth 20000 in
theorem ggX7_turnOff_X7_isSeat : GoodIn wsX7_turnOff wsX7_isSeat := goodIn_r _ [5, 6, 7, 4, 8, 9, 10, 11] (by decide +kernel) (by decide +kernel)
set_option maxRecDepth 20000 in
theorem gX7_turnOff_X7_isSeat : GoodIn wsX7_turnOff (va_wsS RX7 118 yX7_isSeat wsX7_isSeat) := goodIn_app (goodIn_of _ (by decide +kernel)) ggX7_turnOff_X7_isSeat
set_option maxRecDepth 20000 in
theorem ggX7_turnOff_X7_isOn : GoodIn wsX7_turnOff wsX7_isOn := goodIn_r _ [15, 16, 17, 18, 4, 19, 64, 65, 66, 67, 68, 69, 70, 71, 72, 73] (by decide +kernel) (by decide +kernel)
set_option maxRecDepth 20000 in
theorem gX7_turnOff_X7_isOn : GoodIn wsX7_turnOff (wsV RX7 63 RX7 yX7_isOn wsX7_isOn) := goodIn_app (goodIn_of _ (by decide +kernel)) ggX7_turnOff_X7_isOn
set_option maxRecDepth 20000 in
theorem ggX7_turnOff_X7_keep : GoodIn wsX7_turnOff wsX7_keep := goodIn_r _ [23, 24, 25, 16, 26, 27, 4, 28, 64, 65, 66, 67, 68, 69, 70, 71, 72, 73] (by decide +kernel) (by decide +kernel)
set_option maxRecDepth 20000 in
theorem gX7_turnOff_X7_keep : GoodIn wsX7_turnOff (wsV RX7 100 RX7 yX7_keep wsX7_keep) := goodIn_app (goodIn_of _ (by decide +kernel)) ggX7_turnOff_X7_keep
set_option maxRecDepth 20000 in
theorem ggX7_turnOff_X7_turnsOff : GoodIn wsX7_turnOff wsX7_turnsOff := goodIn_r _ [32, 16, 17, 18, 4, 19, 33, 34, 35, 36, 37, 38, 39, 40, 41, 42, 43, 44, 45, 46, 47, 48, 49, 50, 51, 52, 53, 54, 55, 56, 57, 58, 59, 60, 61, 62, 63, 64, 65, 66, 67, 68, 69, 70, 71, 72, 73] (by decide +kernel) (by decide +kernel)
set_option maxRecDepth 20000 in
theorem gX7_turnOff_X7_turnsOff : GoodIn wsX7_turnOff (wsV RX7 125 RX7 yX7_turnsOff wsX7_turnsOff) := goodIn_app (goodIn_of _ (by decide +kernel)) ggX7_turnOff_X7_turnsOff
theorem dX7_turnOff_0 : decode cX7_turnOff 0 = .ok (.aload_n 0, 1) := by decide +kernel
theorem dX7_turnOff_1 : decode cX7_turnOff 1 = .ok (.iload_n 1, 1) := by decide +kernel
theorem dX7_turnOff_2 : decode cX7_turnOff 2 = .ok (.iload_n 2, 1) := by decide +kernel
theorem dX7_turnOff_3 : decode cX7_turnOff 3 = .ok (.invokestatic 118, 3) := by decide +kernel
theorem dX7_turnOff_6 : decode cX7_turnOff 6 = .ok (.ifCond .ne 7, 3) := by decide +kernel
theorem dX7_turnOff_9 : decode cX7_turnOff 9 = .ok (.iconst 1, 1) := by decide +kernel
theorem dX7_turnOff_10 : decode cX7_turnOff 10 = .ok (.goto 17, 3) := by decide +kernel
theorem dX7_turnOff_13 : decode cX7_turnOff 13 = .ok (.aload_n 0, 1) := by decide +kernel
theorem dX7_turnOff_14 : decode cX7_turnOff 14 = .ok (.iload_n 1, 1) := by decide +kernel
theorem dX7_turnOff_15 : decode cX7_turnOff 15 = .ok (.iload_n 2, 1) := by decide +kernel
theorem dX7_turnOff_16 : decode cX7_turnOff 16 = .ok (.invokevirtual 63, 3) := by decide +kernel
theorem dX7_turnOff_19 : decode cX7_turnOff 19 = .ok (.ifCond .eq 7, 3) := by decide +kernel
theorem dX7_turnOff_22 : decode cX7_turnOff 22 = .ok (.iconst 0, 1) := by decide +kernel
theorem dX7_turnOff_23 : decode cX7_turnOff 23 = .ok (.goto 4, 3) := by decide +kernel
theorem dX7_turnOff_26 : decode cX7_turnOff 26 = .ok (.iconst 2, 1) := by decide +kernel
theorem dX7_turnOff_27 : decode cX7_turnOff 27 = .ok (.putfield 25, 3) := by decide +kernel
theorem dX7_turnOff_30 : decode cX7_turnOff 30 = .ok (.aload_n 0, 1) := by decide +kernel
theorem dX7_turnOff_31 : decode cX7_turnOff 31 = .ok (.getfield 25, 3) := by decide +kernel
theorem dX7_turnOff_34 : decode cX7_turnOff 34 = .ok (.ifCond .eq 5, 3) := by decide +kernel
theorem dX7_turnOff_37 : decode cX7_turnOff 37 = .ok (.iconst 0, 1) := by decide +kernel
theorem dX7_turnOff_38 : decode cX7_turnOff 38 = .ok (.ireturn, 1) := by decide +kernel
theorem dX7_turnOff_39 : decode cX7_turnOff 39 = .ok (.aload_n 0, 1) := by decide +kernel
theorem dX7_turnOff_40 : decode cX7_turnOff 40 = .ok (.invokevirtual 100, 3) := by decide +kernel
theorem dX7_turnOff_43 : decode cX7_turnOff 43 = .ok (.aload_n 0, 1) := by decide +kernel
theorem dX7_turnOff_44 : decode cX7_turnOff 44 = .ok (.iload_n 1, 1) := by decide +kernel
theorem dX7_turnOff_45 : decode cX7_turnOff 45 = .ok (.iload_n 2, 1) := by decide +kernel
theorem dX7_turnOff_46 : decode cX7_turnOff 46 = .ok (.invokevirtual 125, 3) := by decide +kernel
theorem dX7_turnOff_49 : decode cX7_turnOff 49 = .ok (.ireturn, 1) := by decide +kernel
set_option maxRecDepth 20000 in
theorem ggX7_bestSeat_X7_isUser : GoodIn wsX7_bestSeat wsX7_isUser := goodIn_r _ [6, 7, 8, 5, 9] (by decide +kernel) (by decide +kernel)
set_option maxRecDepth 20000 in
theorem gX7_bestSeat_X7_isUser : GoodIn wsX7_bestSeat (va_wsS RX7 40 yX7_isUser wsX7_isUser) := goodIn_app (goodIn_of _ (by decide +kernel)) ggX7_bestSeat_X7_isUser
set_option maxRecDepth 20000 in
theorem ggX7_bestSeat_X7_seatCell : GoodIn wsX7_bestSeat wsX7_seatCell := goodIn_r _ [12] (by decide +kernel) (by decide +kernel)
set_option maxRecDepth 20000 in
theorem gX7_bestSeat_X7_seatCell : GoodIn wsX7_bestSeat (va_wsS RX7 44 yX7_seatCell wsX7_seatCell) := goodIn_app (goodIn_of _ (by decide +kernel)) ggX7_bestSeat_X7_seatCell
set_option maxRecDepth 20000 in
theorem ggX7_bestSeat_X7_isOn : GoodIn wsX7_bestSeat wsX7_isOn := goodIn_r _ [16, 2, 10, 11, 5, 12, 17, 18, 19, 20, 21, 22, 23, 24, 25, 26] (by decide +kernel) (by decide +kernel)
set_option maxRecDepth 20000 in
theorem gX7_bestSeat_X7_isOn : GoodIn wsX7_bestSeat (wsV RX7 63 RX7 yX7_isOn wsX7_isOn) := goodIn_app (goodIn_of _ (by decide +kernel)) ggX7_bestSeat_X7_isOn
theorem dX7_bestSeat_0 : decode cX7_bestSeat 0 = .ok (.aload_n 0, 1) := by decide +kernel
theorem dX7_bestSeat_1 : decode cX7_bestSeat 1 = .ok (.iload_n 1, 1) := by decide +kernel
theorem dX7_bestSeat_2 : decode cX7_bestSeat 2 = .ok (.invokestatic 40, 3) := by decide +kernel
theorem dX7_bestSeat_5 : decode cX7_bestSeat 5 = .ok (.ifCond .eq 7, 3) := by decide +kernel
theorem dX7_bestSeat_8 : decode cX7_bestSeat 8 = .ok (.iconst 0, 1) := by decide +kernel
theorem dX7_bestSeat_9 : decode cX7_bestSeat 9 = .ok (.goto 4, 3) := by decide +kernel
theorem dX7_bestSeat_12 : decode cX7_bestSeat 12 = .ok (.iconst 1, 1) := by decide +kernel
theorem dX7_bestSeat_13 : decode cX7_bestSeat 13 = .ok (.putfield 25, 3) := by decide +kernel
theorem dX7_bestSeat_16 : decode cX7_bestSeat 16 = .ok (.aload_n 0, 1) := by decide +kernel
theorem dX7_bestSeat_17 : decode cX7_bestSeat 17 = .ok (.getfield 25, 3) := by decide +kernel
theorem dX7_bestSeat_20 : decode cX7_bestSeat 20 = .ok (.ifCond .eq 5, 3) := by decide +kernel
theorem dX7_bestSeat_23 : decode cX7_bestSeat 23 = .ok (.iconst 0, 1) := by decide +kernel
theorem dX7_bestSeat_24 : decode cX7_bestSeat 24 = .ok (.ireturn, 1) := by decide +kernel
theorem dX7_bestSeat_25 : decode cX7_bestSeat 25 = .ok (.iconst (-1), 1) := by decide +kernel
theorem dX7_bestSeat_26 : decode cX7_bestSeat 26 = .ok (.istore_n 2, 1) := by decide +kernel
theorem dX7_bestSeat_27 : decode cX7_bestSeat 27 = .ok (.iconst (-1), 1) := by decide +kernel
theorem dX7_bestSeat_28 : decode cX7_bestSeat 28 = .ok (.istore_n 3, 1) := by decide +kernel
theorem dX7_bestSeat_29 : decode cX7_bestSeat 29 = .ok (.iconst 0, 1) := by decide +kernel
theorem dX7_bestSeat_30 : decode cX7_bestSeat 30 = .ok (.istore 4, 2) := by decide +kernel
theorem dX7_bestSeat_32 : decode cX7_bestSeat 32 = .ok (.iload 4, 2) := by decide +kernel
theorem dX7_bestSeat_34 : decode cX7_bestSeat 34 = .ok (.iconst 3, 1) := by decide +kernel
theorem dX7_bestSeat_35 : decode cX7_bestSeat 35 = .ok (.if_icmp .ge 51, 3) := by decide +kernel
theorem dX7_bestSeat_38 : decode cX7_bestSeat 38 = .ok (.aload_n 0, 1) := by decide +kernel
theorem dX7_bestSeat_39 : decode cX7_bestSeat 39 = .ok (.getfield 7, 3) := by decide +kernel
theorem dX7_bestSeat_42 : decode cX7_bestSeat 42 = .ok (.iload_n 1, 1) := by decide +kernel
theorem dX7_bestSeat_43 : decode cX7_bestSeat 43 = .ok (.iload 4, 2) := by decide +kernel
theorem dX7_bestSeat_45 : decode cX7_bestSeat 45 = .ok (.invokestatic 44, 3) := by decide +kernel
theorem dX7_bestSeat_48 : decode cX7_bestSeat 48 = .ok (.iconst 1, 1) := by decide +kernel
theorem dX7_bestSeat_49 : decode cX7_bestSeat 49 = .ok (.iadd, 1) := by decide +kernel
theorem dX7_bestSeat_50 : decode cX7_bestSeat 50 = .ok (.iaload, 1) := by decide +kernel
theorem dX7_bestSeat_51 : decode cX7_bestSeat 51 = .ok (.istore 5, 2) := by decide +kernel
theorem dX7_bestSeat_53 : decode cX7_bestSeat 53 = .ok (.aload_n 0, 1) := by decide +kernel
theorem dX7_bestSeat_54 : decode cX7_bestSeat 54 = .ok (.iload_n 1, 1) := by decide +kernel
theorem dX7_bestSeat_55 : decode cX7_bestSeat 55 = .ok (.iload 4, 2) := by decide +kernel
theorem dX7_bestSeat_57 : decode cX7_bestSeat 57 = .ok (.invokevirtual 63, 3) := by decide +kernel
theorem dX7_bestSeat_60 : decode cX7_bestSeat 60 = .ok (.ifCond .eq 20, 3) := by decide +kernel
theorem dX7_bestSeat_63 : decode cX7_bestSeat 63 = .ok (.iload 5, 2) := by decide +kernel
theorem dX7_bestSeat_65 : decode cX7_bestSeat 65 = .ok (.ifCond .lt 15, 3) := by decide +kernel
theorem dX7_bestSeat_68 : decode cX7_bestSeat 68 = .ok (.iload 5, 2) := by decide +kernel
theorem dX7_bestSeat_70 : decode cX7_bestSeat 70 = .ok (.iload_n 3, 1) := by decide +kernel
theorem dX7_bestSeat_71 : decode cX7_bestSeat 71 = .ok (.if_icmp .le 9, 3) := by decide +kernel
theorem dX7_bestSeat_74 : decode cX7_bestSeat 74 = .ok (.iload 4, 2) := by decide +kernel
theorem dX7_bestSeat_76 : decode cX7_bestSeat 76 = .ok (.istore_n 2, 1) := by decide +kernel
theorem dX7_bestSeat_77 : decode cX7_bestSeat 77 = .ok (.iload 5, 2) := by decide +kernel
theorem dX7_bestSeat_79 : decode cX7_bestSeat 79 = .ok (.istore_n 3, 1) := by decide +kernel
theorem dX7_bestSeat_80 : decode cX7_bestSeat 80 = .ok (.iinc 4 1, 3) := by decide +kernel
theorem dX7_bestSeat_83 : decode cX7_bestSeat 83 = .ok (.goto (-51), 3) := by decide +kernel
theorem dX7_bestSeat_86 : decode cX7_bestSeat 86 = .ok (.iload_n 2, 1) := by decide +kernel
theorem dX7_bestSeat_87 : decode cX7_bestSeat 87 = .ok (.ireturn, 1) := by decide +kernel
set_option maxRecDepth 20000 in
theorem ggX7_seat_X7_isSeat : GoodIn wsX7_seat wsX7_isSeat := goodIn_r _ [6, 7, 8, 5, 9, 10, 11, 12] (by decide +kernel) (by decide +kernel)
set_option maxRecDepth 20000 in
theorem gX7_seat_X7_isSeat : GoodIn wsX7_seat (va_wsS RX7 118 yX7_isSeat wsX7_isSeat) := goodIn_app (goodIn_of _ (by decide +kernel)) ggX7_seat_X7_isSeat
set_option maxRecDepth 20000 in
theorem ggX7_seat_X7_in : GoodIn wsX7_seat wsX7_in := goodIn_r _ [12] (by decide +kernel) (by decide +kernel)
set_option maxRecDepth 20000 in
theorem gX7_seat_X7_in : GoodIn wsX7_seat (va_wsS RX7 36 yX7_in wsX7_in) := goodIn_app (goodIn_of _ (by decide +kernel)) ggX7_seat_X7_in
set_option maxRecDepth 20000 in
theorem ggX7_seat_X7_seatCell : GoodIn wsX7_seat wsX7_seatCell := goodIn_r _ [15] (by decide +kernel) (by decide +kernel)
set_option maxRecDepth 20000 in
theorem gX7_seat_X7_seatCell : GoodIn wsX7_seat (va_wsS RX7 44 yX7_seatCell wsX7_seatCell) := goodIn_app (goodIn_of _ (by decide +kernel)) ggX7_seat_X7_seatCell
theorem dX7_seat_0 : decode cX7_seat 0 = .ok (.aload_n 0, 1) := by decide +kernel
theorem dX7_seat_1 : decode cX7_seat 1 = .ok (.iload_n 1, 1) := by decide +kernel
theorem dX7_seat_2 : decode cX7_seat 2 = .ok (.iload_n 2, 1) := by decide +kernel
theorem dX7_seat_3 : decode cX7_seat 3 = .ok (.invokestatic 118, 3) := by decide +kernel
theorem dX7_seat_6 : decode cX7_seat 6 = .ok (.ifCond .ne 7, 3) := by decide +kernel
theorem dX7_seat_9 : decode cX7_seat 9 = .ok (.iconst 1, 1) := by decide +kernel
theorem dX7_seat_10 : decode cX7_seat 10 = .ok (.goto 17, 3) := by decide +kernel
theorem dX7_seat_13 : decode cX7_seat 13 = .ok (.iload_n 3, 1) := by decide +kernel
theorem dX7_seat_14 : decode cX7_seat 14 = .ok (.iconst 0, 1) := by decide +kernel
theorem dX7_seat_15 : decode cX7_seat 15 = .ok (.iconst 2, 1) := by decide +kernel
theorem dX7_seat_16 : decode cX7_seat 16 = .ok (.invokestatic 36, 3) := by decide +kernel
theorem dX7_seat_19 : decode cX7_seat 19 = .ok (.ifCond .eq 7, 3) := by decide +kernel
theorem dX7_seat_22 : decode cX7_seat 22 = .ok (.iconst 0, 1) := by decide +kernel
theorem dX7_seat_23 : decode cX7_seat 23 = .ok (.goto 4, 3) := by decide +kernel
theorem dX7_seat_26 : decode cX7_seat 26 = .ok (.iconst 2, 1) := by decide +kernel
theorem dX7_seat_27 : decode cX7_seat 27 = .ok (.putfield 25, 3) := by decide +kernel
theorem dX7_seat_30 : decode cX7_seat 30 = .ok (.aload_n 0, 1) := by decide +kernel
theorem dX7_seat_31 : decode cX7_seat 31 = .ok (.getfield 25, 3) := by decide +kernel
theorem dX7_seat_34 : decode cX7_seat 34 = .ok (.ifCond .eq 7, 3) := by decide +kernel
theorem dX7_seat_37 : decode cX7_seat 37 = .ok (.iconst 0, 1) := by decide +kernel
theorem dX7_seat_38 : decode cX7_seat 38 = .ok (.goto 15, 3) := by decide +kernel
theorem dX7_seat_41 : decode cX7_seat 41 = .ok (.aload_n 0, 1) := by decide +kernel
theorem dX7_seat_42 : decode cX7_seat 42 = .ok (.getfield 7, 3) := by decide +kernel
theorem dX7_seat_45 : decode cX7_seat 45 = .ok (.iload_n 1, 1) := by decide +kernel
theorem dX7_seat_46 : decode cX7_seat 46 = .ok (.iload_n 2, 1) := by decide +kernel
theorem dX7_seat_47 : decode cX7_seat 47 = .ok (.invokestatic 44, 3) := by decide +kernel
theorem dX7_seat_50 : decode cX7_seat 50 = .ok (.iload_n 3, 1) := by decide +kernel
theorem dX7_seat_51 : decode cX7_seat 51 = .ok (.iadd, 1) := by decide +kernel
theorem dX7_seat_52 : decode cX7_seat 52 = .ok (.iaload, 1) := by decide +kernel
theorem dX7_seat_53 : decode cX7_seat 53 = .ok (.ireturn, 1) := by decide +kernel
set_option maxRecDepth 20000 in
theorem ggX7_deliver_X7_in : GoodIn wsX7_deliver wsX7_in := goodIn_r _ [5] (by decide +kernel) (by decide +kernel)
set_option maxRecDepth 20000 in
theorem gX7_deliver_X7_in : GoodIn wsX7_deliver (va_wsS RX7 36 yX7_in wsX7_in) := goodIn_app (goodIn_of _ (by decide +kernel)) ggX7_deliver_X7_in
set_option maxRecDepth 20000 in
theorem ggX7_deliver_X7_keep : GoodIn wsX7_deliver wsX7_keep := goodIn_r _ [9, 10, 11, 12, 13, 14, 4, 15, 77, 78, 79, 80, 81, 82, 83, 84, 85, 86] (by decide +kernel) (by decide +kernel)
set_option maxRecDepth 20000 in
theorem gX7_deliver_X7_keep : GoodIn wsX7_deliver (wsV RX7 100 RX7 yX7_keep wsX7_keep) := goodIn_app (goodIn_of _ (by decide +kernel)) ggX7_deliver_X7_keep
set_option maxRecDepth 20000 in
theorem ggX7_deliver_X7_delivers : GoodIn wsX7_deliver wsX7_delivers := goodIn_r _ [19, 12, 20, 21, 22, 4, 23, 24, 25, 26, 27, 28, 29, 30, 31, 32, 33, 34, 35, 36, 37, 38, 39, 40, 41, 42, 43, 44, 45, 46, 47, 48, 49, 50, 51, 52, 53, 54, 55, 56, 57, 58, 59, 60, 61, 62, 63, 64, 65, 66, 67, 68, 69, 70, 71, 72, 73, 74, 75, 76, 77, 78, 79, 80, 81, 82, 83, 84, 85, 86] (by decide +kernel) (by decide +kernel)
set_option maxRecDepth 20000 in
theorem gX7_deliver_X7_delivers : GoodIn wsX7_deliver (wsV RX7 128 RX7 yX7_delivers wsX7_delivers) := goodIn_app (goodIn_of _ (by decide +kernel)) ggX7_deliver_X7_delivers
theorem dX7_deliver_0 : decode cX7_deliver 0 = .ok (.aload_n 0, 1) := by decide +kernel
theorem dX7_deliver_1 : decode cX7_deliver 1 = .ok (.iload_n 1, 1) := by decide +kernel
theorem dX7_deliver_2 : decode cX7_deliver 2 = .ok (.iconst 0, 1) := by decide +kernel
theorem dX7_deliver_3 : decode cX7_deliver 3 = .ok (.sipush 1000, 3) := by decide +kernel
theorem dX7_deliver_6 : decode cX7_deliver 6 = .ok (.invokestatic 36, 3) := by decide +kernel
theorem dX7_deliver_9 : decode cX7_deliver 9 = .ok (.ifCond .eq 7, 3) := by decide +kernel
theorem dX7_deliver_12 : decode cX7_deliver 12 = .ok (.iconst 0, 1) := by decide +kernel
theorem dX7_deliver_13 : decode cX7_deliver 13 = .ok (.goto 4, 3) := by decide +kernel
theorem dX7_deliver_16 : decode cX7_deliver 16 = .ok (.iconst 1, 1) := by decide +kernel
theorem dX7_deliver_17 : decode cX7_deliver 17 = .ok (.putfield 25, 3) := by decide +kernel
theorem dX7_deliver_20 : decode cX7_deliver 20 = .ok (.aload_n 0, 1) := by decide +kernel
theorem dX7_deliver_21 : decode cX7_deliver 21 = .ok (.getfield 25, 3) := by decide +kernel
theorem dX7_deliver_24 : decode cX7_deliver 24 = .ok (.ifCond .eq 5, 3) := by decide +kernel
theorem dX7_deliver_27 : decode cX7_deliver 27 = .ok (.iconst 0, 1) := by decide +kernel
theorem dX7_deliver_28 : decode cX7_deliver 28 = .ok (.ireturn, 1) := by decide +kernel
theorem dX7_deliver_29 : decode cX7_deliver 29 = .ok (.aload_n 0, 1) := by decide +kernel
theorem dX7_deliver_30 : decode cX7_deliver 30 = .ok (.invokevirtual 100, 3) := by decide +kernel
theorem dX7_deliver_33 : decode cX7_deliver 33 = .ok (.aload_n 0, 1) := by decide +kernel
theorem dX7_deliver_34 : decode cX7_deliver 34 = .ok (.iload_n 1, 1) := by decide +kernel
theorem dX7_deliver_35 : decode cX7_deliver 35 = .ok (.invokevirtual 128, 3) := by decide +kernel
theorem dX7_deliver_38 : decode cX7_deliver 38 = .ok (.ireturn, 1) := by decide +kernel
set_option maxRecDepth 20000 in
theorem ggX7_isMessage_X7_in : GoodIn wsX7_isMessage wsX7_in := goodIn_r _ [5] (by decide +kernel) (by decide +kernel)
set_option maxRecDepth 20000 in
theorem gX7_isMessage_X7_in : GoodIn wsX7_isMessage (va_wsS RX7 36 yX7_in wsX7_in) := goodIn_app (goodIn_of _ (by decide +kernel)) ggX7_isMessage_X7_in
theorem dX7_isMessage_0 : decode cX7_isMessage 0 = .ok (.iload_n 1, 1) := by decide +kernel
theorem dX7_isMessage_1 : decode cX7_isMessage 1 = .ok (.iconst 0, 1) := by decide +kernel
theorem dX7_isMessage_2 : decode cX7_isMessage 2 = .ok (.aload_n 0, 1) := by decide +kernel
theorem dX7_isMessage_3 : decode cX7_isMessage 3 = .ok (.getfield 7, 3) := by decide +kernel
theorem dX7_isMessage_6 : decode cX7_isMessage 6 = .ok (.sipush 577, 3) := by decide +kernel
theorem dX7_isMessage_9 : decode cX7_isMessage 9 = .ok (.iaload, 1) := by decide +kernel
theorem dX7_isMessage_10 : decode cX7_isMessage 10 = .ok (.iconst 1, 1) := by decide +kernel
theorem dX7_isMessage_11 : decode cX7_isMessage 11 = .ok (.isub, 1) := by decide +kernel
theorem dX7_isMessage_12 : decode cX7_isMessage 12 = .ok (.invokestatic 36, 3) := by decide +kernel
theorem dX7_isMessage_15 : decode cX7_isMessage 15 = .ok (.ireturn, 1) := by decide +kernel
set_option maxRecDepth 20000 in
theorem ggX7_lose_X7_isMessage : GoodIn wsX7_lose wsX7_isMessage := goodIn_r _ [6, 7, 8, 9, 5, 10, 31, 32, 33, 34, 35, 36, 37, 38, 39, 40] (by decide +kernel) (by decide +kernel)
set_option maxRecDepth 20000 in
theorem gX7_lose_X7_isMessage : GoodIn wsX7_lose (wsV RX7 131 RX7 yX7_isMessage wsX7_isMessage) := goodIn_app (goodIn_of _ (by decide +kernel)) ggX7_lose_X7_isMessage
set_option maxRecDepth 20000 in
theorem ggX7_lose_X7_keep : GoodIn wsX7_lose wsX7_keep := goodIn_r _ [14, 15, 16, 7, 17, 18, 5, 19, 31, 32, 33, 34, 35, 36, 37, 38, 39, 40] (by decide +kernel) (by decide +kernel)
set_option maxRecDepth 20000 in
theorem gX7_lose_X7_keep : GoodIn wsX7_lose (wsV RX7 100 RX7 yX7_keep wsX7_keep) := goodIn_app (goodIn_of _ (by decide +kernel)) ggX7_lose_X7_keep
set_option maxRecDepth 20000 in
theorem ggX7_lose_X7_messageAt : GoodIn wsX7_lose wsX7_messageAt := goodIn_r _ [23, 7, 31, 32, 33, 34, 35, 36, 37, 38, 39, 40] (by decide +kernel) (by decide +kernel)
set_option maxRecDepth 20000 in
theorem gX7_lose_X7_messageAt : GoodIn wsX7_lose (wsV RX7 90 RX7 yX7_messageAt wsX7_messageAt) := goodIn_app (goodIn_of _ (by decide +kernel)) ggX7_lose_X7_messageAt
set_option maxRecDepth 20000 in
theorem ggX7_lose_X7_part : GoodIn wsX7_lose wsX7_part := goodIn_r _ [26] (by decide +kernel) (by decide +kernel)
set_option maxRecDepth 20000 in
theorem gX7_lose_X7_part : GoodIn wsX7_lose (va_wsS RX7 70 yX7_part wsX7_part) := goodIn_app (goodIn_of _ (by decide +kernel)) ggX7_lose_X7_part
set_option maxRecDepth 20000 in
theorem ggX7_lose_X7_drops : GoodIn wsX7_lose wsX7_drops := goodIn_r _ [30, 7, 20, 21, 22, 5, 23, 31, 32, 33, 34, 35, 36, 37, 38, 39, 40] (by decide +kernel) (by decide +kernel)
set_option maxRecDepth 20000 in
theorem gX7_lose_X7_drops : GoodIn wsX7_lose (wsV RX7 134 RX7 yX7_drops wsX7_drops) := goodIn_app (goodIn_of _ (by decide +kernel)) ggX7_lose_X7_drops
theorem dX7_lose_0 : decode cX7_lose 0 = .ok (.aload_n 0, 1) := by decide +kernel
theorem dX7_lose_1 : decode cX7_lose 1 = .ok (.aload_n 0, 1) := by decide +kernel
theorem dX7_lose_2 : decode cX7_lose 2 = .ok (.iload_n 1, 1) := by decide +kernel
theorem dX7_lose_3 : decode cX7_lose 3 = .ok (.invokevirtual 131, 3) := by decide +kernel
theorem dX7_lose_6 : decode cX7_lose 6 = .ok (.ifCond .eq 7, 3) := by decide +kernel
theorem dX7_lose_9 : decode cX7_lose 9 = .ok (.iconst 0, 1) := by decide +kernel
theorem dX7_lose_10 : decode cX7_lose 10 = .ok (.goto 4, 3) := by decide +kernel
theorem dX7_lose_13 : decode cX7_lose 13 = .ok (.iconst 1, 1) := by decide +kernel
theorem dX7_lose_14 : decode cX7_lose 14 = .ok (.putfield 25, 3) := by decide +kernel
theorem dX7_lose_17 : decode cX7_lose 17 = .ok (.aload_n 0, 1) := by decide +kernel
theorem dX7_lose_18 : decode cX7_lose 18 = .ok (.getfield 25, 3) := by decide +kernel
theorem dX7_lose_21 : decode cX7_lose 21 = .ok (.ifCond .eq 5, 3) := by decide +kernel
theorem dX7_lose_24 : decode cX7_lose 24 = .ok (.iconst 0, 1) := by decide +kernel
theorem dX7_lose_25 : decode cX7_lose 25 = .ok (.ireturn, 1) := by decide +kernel
theorem dX7_lose_26 : decode cX7_lose 26 = .ok (.aload_n 0, 1) := by decide +kernel
theorem dX7_lose_27 : decode cX7_lose 27 = .ok (.invokevirtual 100, 3) := by decide +kernel
theorem dX7_lose_30 : decode cX7_lose 30 = .ok (.aload_n 0, 1) := by decide +kernel
theorem dX7_lose_31 : decode cX7_lose 31 = .ok (.iload_n 1, 1) := by decide +kernel
theorem dX7_lose_32 : decode cX7_lose 32 = .ok (.invokevirtual 90, 3) := by decide +kernel
theorem dX7_lose_35 : decode cX7_lose 35 = .ok (.iconst 0, 1) := by decide +kernel
theorem dX7_lose_36 : decode cX7_lose 36 = .ok (.invokestatic 70, 3) := by decide +kernel
theorem dX7_lose_39 : decode cX7_lose 39 = .ok (.istore_n 2, 1) := by decide +kernel
theorem dX7_lose_40 : decode cX7_lose 40 = .ok (.aload_n 0, 1) := by decide +kernel
theorem dX7_lose_41 : decode cX7_lose 41 = .ok (.iload_n 1, 1) := by decide +kernel
theorem dX7_lose_42 : decode cX7_lose 42 = .ok (.invokevirtual 134, 3) := by decide +kernel
theorem dX7_lose_45 : decode cX7_lose 45 = .ok (.iload_n 2, 1) := by decide +kernel
theorem dX7_lose_46 : decode cX7_lose 46 = .ok (.ireturn, 1) := by decide +kernel
theorem dX7_underWay_0 : decode cX7_underWay 0 = .ok (.aload_n 0, 1) := by decide +kernel
theorem dX7_underWay_1 : decode cX7_underWay 1 = .ok (.iconst 0, 1) := by decide +kernel
theorem dX7_underWay_2 : decode cX7_underWay 2 = .ok (.putfield 25, 3) := by decide +kernel
theorem dX7_underWay_5 : decode cX7_underWay 5 = .ok (.aload_n 0, 1) := by decide +kernel
theorem dX7_underWay_6 : decode cX7_underWay 6 = .ok (.getfield 7, 3) := by decide +kernel
theorem dX7_underWay_9 : decode cX7_underWay 9 = .ok (.sipush 577, 3) := by decide +kernel
theorem dX7_underWay_12 : decode cX7_underWay 12 = .ok (.iaload, 1) := by decide +kernel
theorem dX7_underWay_13 : decode cX7_underWay 13 = .ok (.ireturn, 1) := by decide +kernel
set_option maxRecDepth 20000 in
theorem ggX7_ofMessage_X7_messageAt : GoodIn wsX7_ofMessage wsX7_messageAt := goodIn_r _ [5, 6, 10, 11, 12, 13, 14, 15, 16, 17, 18, 19] (by decide +kernel) (by decide +kernel)
set_option maxRecDepth 20000 in
theorem gX7_ofMessage_X7_messageAt : GoodIn wsX7_ofMessage (wsV RX7 90 RX7 yX7_messageAt wsX7_messageAt) := goodIn_app (goodIn_of _ (by decide +kernel)) ggX7_ofMessage_X7_messageAt
set_option maxRecDepth 20000 in
theorem ggX7_ofMessage_X7_part : GoodIn wsX7_ofMessage wsX7_part := goodIn_r _ [9] (by decide +kernel) (by decide +kernel)
set_option maxRecDepth 20000 in
theorem gX7_ofMessage_X7_part : GoodIn wsX7_ofMessage (va_wsS RX7 70 yX7_part wsX7_part) := goodIn_app (goodIn_of _ (by decide +kernel)) ggX7_ofMessage_X7_part
theorem dX7_ofMessage_0 : decode cX7_ofMessage 0 = .ok (.aload_n 0, 1) := by decide +kernel
theorem dX7_ofMessage_1 : decode cX7_ofMessage 1 = .ok (.iload_n 1, 1) := by decide +kernel
theorem dX7_ofMessage_2 : decode cX7_ofMessage 2 = .ok (.invokevirtual 90, 3) := by decide +kernel
theorem dX7_ofMessage_5 : decode cX7_ofMessage 5 = .ok (.istore_n 3, 1) := by decide +kernel
theorem dX7_ofMessage_6 : decode cX7_ofMessage 6 = .ok (.iload_n 3, 1) := by decide +kernel
theorem dX7_ofMessage_7 : decode cX7_ofMessage 7 = .ok (.iconst 0, 1) := by decide +kernel
theorem dX7_ofMessage_8 : decode cX7_ofMessage 8 = .ok (.invokestatic 70, 3) := by decide +kernel
theorem dX7_ofMessage_11 : decode cX7_ofMessage 11 = .ok (.istore 4, 2) := by decide +kernel
theorem dX7_ofMessage_13 : decode cX7_ofMessage 13 = .ok (.iload_n 2, 1) := by decide +kernel
theorem dX7_ofMessage_14 : decode cX7_ofMessage 14 = .ok (.iconst 3, 1) := by decide +kernel
theorem dX7_ofMessage_15 : decode cX7_ofMessage 15 = .ok (.if_icmp .ne 15, 3) := by decide +kernel
theorem dX7_ofMessage_18 : decode cX7_ofMessage 18 = .ok (.iload 4, 2) := by decide +kernel
theorem dX7_ofMessage_20 : decode cX7_ofMessage 20 = .ok (.iconst 4, 1) := by decide +kernel
theorem dX7_ofMessage_21 : decode cX7_ofMessage 21 = .ok (.if_icmp .eq 9, 3) := by decide +kernel
theorem dX7_ofMessage_24 : decode cX7_ofMessage 24 = .ok (.iload 4, 2) := by decide +kernel
theorem dX7_ofMessage_26 : decode cX7_ofMessage 26 = .ok (.iconst 5, 1) := by decide +kernel
theorem dX7_ofMessage_27 : decode cX7_ofMessage 27 = .ok (.if_icmp .ne 14, 3) := by decide +kernel
theorem dX7_ofMessage_30 : decode cX7_ofMessage 30 = .ok (.iload_n 2, 1) := by decide +kernel
theorem dX7_ofMessage_31 : decode cX7_ofMessage 31 = .ok (.iconst 4, 1) := by decide +kernel
theorem dX7_ofMessage_32 : decode cX7_ofMessage 32 = .ok (.if_icmp .ne 13, 3) := by decide +kernel
theorem dX7_ofMessage_35 : decode cX7_ofMessage 35 = .ok (.iload 4, 2) := by decide +kernel
theorem dX7_ofMessage_37 : decode cX7_ofMessage 37 = .ok (.iconst 4, 1) := by decide +kernel
theorem dX7_ofMessage_38 : decode cX7_ofMessage 38 = .ok (.if_icmp .eq 7, 3) := by decide +kernel
theorem dX7_ofMessage_41 : decode cX7_ofMessage 41 = .ok (.iconst 1, 1) := by decide +kernel
theorem dX7_ofMessage_42 : decode cX7_ofMessage 42 = .ok (.goto 4, 3) := by decide +kernel
theorem dX7_ofMessage_45 : decode cX7_ofMessage 45 = .ok (.iconst 0, 1) := by decide +kernel
theorem dX7_ofMessage_46 : decode cX7_ofMessage 46 = .ok (.istore 5, 2) := by decide +kernel
theorem dX7_ofMessage_48 : decode cX7_ofMessage 48 = .ok (.iload 5, 2) := by decide +kernel
theorem dX7_ofMessage_50 : decode cX7_ofMessage 50 = .ok (.ifCond .eq 7, 3) := by decide +kernel
theorem dX7_ofMessage_53 : decode cX7_ofMessage 53 = .ok (.iconst (-1), 1) := by decide +kernel
theorem dX7_ofMessage_54 : decode cX7_ofMessage 54 = .ok (.goto 8, 3) := by decide +kernel
theorem dX7_ofMessage_57 : decode cX7_ofMessage 57 = .ok (.iload_n 3, 1) := by decide +kernel
theorem dX7_ofMessage_58 : decode cX7_ofMessage 58 = .ok (.iload_n 2, 1) := by decide +kernel
theorem dX7_ofMessage_59 : decode cX7_ofMessage 59 = .ok (.invokestatic 70, 3) := by decide +kernel
theorem dX7_ofMessage_62 : decode cX7_ofMessage 62 = .ok (.ireturn, 1) := by decide +kernel
set_option maxRecDepth 20000 in
theorem ggX7_message_X7_isMessage : GoodIn wsX7_message wsX7_isMessage := goodIn_r _ [6, 7, 8, 9, 5, 10, 22, 23, 24, 25, 26, 27, 28, 29, 30, 31] (by decide +kernel) (by decide +kernel)
set_option maxRecDepth 20000 in
theorem gX7_message_X7_isMessage : GoodIn wsX7_message (wsV RX7 131 RX7 yX7_isMessage wsX7_isMessage) := goodIn_app (goodIn_of _ (by decide +kernel)) ggX7_message_X7_isMessage
set_option maxRecDepth 20000 in
theorem ggX7_message_X7_in : GoodIn wsX7_message wsX7_in := goodIn_r _ [10] (by decide +kernel) (by decide +kernel)
set_option maxRecDepth 20000 in
theorem gX7_message_X7_in : GoodIn wsX7_message (va_wsS RX7 36 yX7_in wsX7_in) := goodIn_app (goodIn_of _ (by decide +kernel)) ggX7_message_X7_in
set_option maxRecDepth 20000 in
theorem ggX7_message_X7_ofMessage : GoodIn wsX7_message wsX7_ofMessage := goodIn_r _ [14, 15, 16, 17, 5, 18, 7, 19, 20, 21, 22, 23, 24, 25, 26, 27, 28, 29, 30, 31] (by decide +kernel) (by decide +kernel)
set_option maxRecDepth 20000 in
theorem gX7_message_X7_ofMessage : GoodIn wsX7_message (wsV RX7 137 RX7 yX7_ofMessage wsX7_ofMessage) := goodIn_app (goodIn_of _ (by decide +kernel)) ggX7_message_X7_ofMessage
theorem dX7_message_0 : decode cX7_message 0 = .ok (.aload_n 0, 1) := by decide +kernel
theorem dX7_message_1 : decode cX7_message 1 = .ok (.aload_n 0, 1) := by decide +kernel
theorem dX7_message_2 : decode cX7_message 2 = .ok (.iload_n 1, 1) := by decide +kernel
theorem dX7_message_3 : decode cX7_message 3 = .ok (.invokevirtual 131, 3) := by decide +kernel
theorem dX7_message_6 : decode cX7_message 6 = .ok (.ifCond .ne 7, 3) := by decide +kernel
theorem dX7_message_9 : decode cX7_message 9 = .ok (.iconst 1, 1) := by decide +kernel
theorem dX7_message_10 : decode cX7_message 10 = .ok (.goto 17, 3) := by decide +kernel
theorem dX7_message_13 : decode cX7_message 13 = .ok (.iload_n 2, 1) := by decide +kernel
theorem dX7_message_14 : decode cX7_message 14 = .ok (.iconst 0, 1) := by decide +kernel
theorem dX7_message_15 : decode cX7_message 15 = .ok (.iconst 4, 1) := by decide +kernel
theorem dX7_message_16 : decode cX7_message 16 = .ok (.invokestatic 36, 3) := by decide +kernel
theorem dX7_message_19 : decode cX7_message 19 = .ok (.ifCond .eq 7, 3) := by decide +kernel
theorem dX7_message_22 : decode cX7_message 22 = .ok (.iconst 0, 1) := by decide +kernel
theorem dX7_message_23 : decode cX7_message 23 = .ok (.goto 4, 3) := by decide +kernel
theorem dX7_message_26 : decode cX7_message 26 = .ok (.iconst 2, 1) := by decide +kernel
theorem dX7_message_27 : decode cX7_message 27 = .ok (.putfield 25, 3) := by decide +kernel
theorem dX7_message_30 : decode cX7_message 30 = .ok (.aload_n 0, 1) := by decide +kernel
theorem dX7_message_31 : decode cX7_message 31 = .ok (.getfield 25, 3) := by decide +kernel
theorem dX7_message_34 : decode cX7_message 34 = .ok (.ifCond .eq 7, 3) := by decide +kernel
theorem dX7_message_37 : decode cX7_message 37 = .ok (.iconst 0, 1) := by decide +kernel
theorem dX7_message_38 : decode cX7_message 38 = .ok (.goto 9, 3) := by decide +kernel
theorem dX7_message_41 : decode cX7_message 41 = .ok (.aload_n 0, 1) := by decide +kernel
theorem dX7_message_42 : decode cX7_message 42 = .ok (.iload_n 1, 1) := by decide +kernel
theorem dX7_message_43 : decode cX7_message 43 = .ok (.iload_n 2, 1) := by decide +kernel
theorem dX7_message_44 : decode cX7_message 44 = .ok (.invokevirtual 137, 3) := by decide +kernel
theorem dX7_message_47 : decode cX7_message 47 = .ok (.ireturn, 1) := by decide +kernel
set_option maxRecDepth 20000 in
theorem ggX7_count_X7_in : GoodIn wsX7_count wsX7_in := goodIn_r _ [6] (by decide +kernel) (by decide +kernel)
set_option maxRecDepth 20000 in
theorem gX7_count_X7_in : GoodIn wsX7_count (va_wsS RX7 36 yX7_in wsX7_in) := goodIn_app (goodIn_of _ (by decide +kernel)) ggX7_count_X7_in
theorem dX7_count_0 : decode cX7_count 0 = .ok (.aload_n 0, 1) := by decide +kernel
theorem dX7_count_1 : decode cX7_count 1 = .ok (.iload_n 1, 1) := by decide +kernel
theorem dX7_count_2 : decode cX7_count 2 = .ok (.iconst 0, 1) := by decide +kernel
theorem dX7_count_3 : decode cX7_count 3 = .ok (.iconst 2, 1) := by decide +kernel
theorem dX7_count_4 : decode cX7_count 4 = .ok (.invokestatic 36, 3) := by decide +kernel
theorem dX7_count_7 : decode cX7_count 7 = .ok (.ifCond .eq 7, 3) := by decide +kernel
theorem dX7_count_10 : decode cX7_count 10 = .ok (.iconst 0, 1) := by decide +kernel
theorem dX7_count_11 : decode cX7_count 11 = .ok (.goto 4, 3) := by decide +kernel
theorem dX7_count_14 : decode cX7_count 14 = .ok (.iconst 1, 1) := by decide +kernel
theorem dX7_count_15 : decode cX7_count 15 = .ok (.putfield 25, 3) := by decide +kernel
theorem dX7_count_18 : decode cX7_count 18 = .ok (.aload_n 0, 1) := by decide +kernel
theorem dX7_count_19 : decode cX7_count 19 = .ok (.getfield 25, 3) := by decide +kernel
theorem dX7_count_22 : decode cX7_count 22 = .ok (.ifCond .eq 7, 3) := by decide +kernel
theorem dX7_count_25 : decode cX7_count 25 = .ok (.iconst 0, 1) := by decide +kernel
theorem dX7_count_26 : decode cX7_count 26 = .ok (.goto 13, 3) := by decide +kernel
theorem dX7_count_29 : decode cX7_count 29 = .ok (.aload_n 0, 1) := by decide +kernel
theorem dX7_count_30 : decode cX7_count 30 = .ok (.getfield 7, 3) := by decide +kernel
theorem dX7_count_33 : decode cX7_count 33 = .ok (.sipush 578, 3) := by decide +kernel
theorem dX7_count_36 : decode cX7_count 36 = .ok (.iload_n 1, 1) := by decide +kernel
theorem dX7_count_37 : decode cX7_count 37 = .ok (.iadd, 1) := by decide +kernel
theorem dX7_count_38 : decode cX7_count 38 = .ok (.iaload, 1) := by decide +kernel
theorem dX7_count_39 : decode cX7_count 39 = .ok (.ireturn, 1) := by decide +kernel
set_option maxRecDepth 20000 in
theorem ggX7_entry_X7_whyNot : GoodIn wsX7_entry wsX7_whyNot := goodIn_r _ [5, 6, 7, 4, 8, 9, 10, 11] (by decide +kernel) (by decide +kernel)
set_option maxRecDepth 20000 in
theorem gX7_entry_X7_whyNot : GoodIn wsX7_entry (va_wsS RX7 97 yX7_whyNot wsX7_whyNot) := goodIn_app (goodIn_of _ (by decide +kernel)) ggX7_entry_X7_whyNot
set_option maxRecDepth 20000 in
theorem ggX7_entry_X7_state : GoodIn wsX7_entry wsX7_state := goodIn_r _ [15, 16, 17, 18, 19, 20, 21, 22, 23, 24, 25, 26] (by decide +kernel) (by decide +kernel)
set_option maxRecDepth 20000 in
theorem gX7_entry_X7_state : GoodIn wsX7_entry (wsV RX7 48 RX7 yX7_state wsX7_state) := goodIn_app (goodIn_of _ (by decide +kernel)) ggX7_entry_X7_state
theorem dX7_entry_0 : decode cX7_entry 0 = .ok (.aload_n 0, 1) := by decide +kernel
theorem dX7_entry_1 : decode cX7_entry 1 = .ok (.iload_n 1, 1) := by decide +kernel
theorem dX7_entry_2 : decode cX7_entry 2 = .ok (.iload_n 2, 1) := by decide +kernel
theorem dX7_entry_3 : decode cX7_entry 3 = .ok (.invokestatic 97, 3) := by decide +kernel
theorem dX7_entry_6 : decode cX7_entry 6 = .ok (.putfield 25, 3) := by decide +kernel
theorem dX7_entry_9 : decode cX7_entry 9 = .ok (.aload_n 0, 1) := by decide +kernel
theorem dX7_entry_10 : decode cX7_entry 10 = .ok (.getfield 25, 3) := by decide +kernel
theorem dX7_entry_13 : decode cX7_entry 13 = .ok (.ifCond .eq 7, 3) := by decide +kernel
theorem dX7_entry_16 : decode cX7_entry 16 = .ok (.iconst 0, 1) := by decide +kernel
theorem dX7_entry_17 : decode cX7_entry 17 = .ok (.goto 9, 3) := by decide +kernel
theorem dX7_entry_20 : decode cX7_entry 20 = .ok (.aload_n 0, 1) := by decide +kernel
theorem dX7_entry_21 : decode cX7_entry 21 = .ok (.iload_n 1, 1) := by decide +kernel
theorem dX7_entry_22 : decode cX7_entry 22 = .ok (.iload_n 2, 1) := by decide +kernel
theorem dX7_entry_23 : decode cX7_entry 23 = .ok (.invokevirtual 48, 3) := by decide +kernel
theorem dX7_entry_26 : decode cX7_entry 26 = .ok (.ireturn, 1) := by decide +kernel
set_option maxRecDepth 20000 in
theorem ggX7_version_X7_isUser : GoodIn wsX7_version wsX7_isUser := goodIn_r _ [6, 7, 8, 5, 9] (by decide +kernel) (by decide +kernel)
set_option maxRecDepth 20000 in
theorem gX7_version_X7_isUser : GoodIn wsX7_version (va_wsS RX7 40 yX7_isUser wsX7_isUser) := goodIn_app (goodIn_of _ (by decide +kernel)) ggX7_version_X7_isUser
set_option maxRecDepth 20000 in
theorem ggX7_version_X7_whyNot : GoodIn wsX7_version wsX7_whyNot := goodIn_r _ [12, 3, 4, 5, 6, 7, 8, 9] (by decide +kernel) (by decide +kernel)
set_option maxRecDepth 20000 in
theorem gX7_version_X7_whyNot : GoodIn wsX7_version (va_wsS RX7 97 yX7_whyNot wsX7_whyNot) := goodIn_app (goodIn_of _ (by decide +kernel)) ggX7_version_X7_whyNot
theorem dX7_version_0 : decode cX7_version 0 = .ok (.aload_n 0, 1) := by decide +kernel
theorem dX7_version_1 : decode cX7_version 1 = .ok (.iload_n 2, 1) := by decide +kernel
theorem dX7_version_2 : decode cX7_version 2 = .ok (.iconst (-1), 1) := by decide +kernel
theorem dX7_version_3 : decode cX7_version 3 = .ok (.if_icmp .ne 14, 3) := by decide +kernel
theorem dX7_version_6 : decode cX7_version 6 = .ok (.iload_n 1, 1) := by decide +kernel
theorem dX7_version_7 : decode cX7_version 7 = .ok (.invokestatic 40, 3) := by decide +kernel
theorem dX7_version_10 : decode cX7_version 10 = .ok (.ifCond .eq 7, 3) := by decide +kernel
theorem dX7_version_13 : decode cX7_version 13 = .ok (.iconst 0, 1) := by decide +kernel
theorem dX7_version_14 : decode cX7_version 14 = .ok (.goto 8, 3) := by decide +kernel
theorem dX7_version_17 : decode cX7_version 17 = .ok (.iload_n 1, 1) := by decide +kernel
theorem dX7_version_18 : decode cX7_version 18 = .ok (.iload_n 2, 1) := by decide +kernel
theorem dX7_version_19 : decode cX7_version 19 = .ok (.invokestatic 97, 3) := by decide +kernel
theorem dX7_version_22 : decode cX7_version 22 = .ok (.putfield 25, 3) := by decide +kernel
theorem dX7_version_25 : decode cX7_version 25 = .ok (.aload_n 0, 1) := by decide +kernel
theorem dX7_version_26 : decode cX7_version 26 = .ok (.getfield 25, 3) := by decide +kernel
theorem dX7_version_29 : decode cX7_version 29 = .ok (.ifCond .eq 5, 3) := by decide +kernel
theorem dX7_version_32 : decode cX7_version 32 = .ok (.iconst 0, 1) := by decide +kernel
theorem dX7_version_33 : decode cX7_version 33 = .ok (.ireturn, 1) := by decide +kernel
theorem dX7_version_34 : decode cX7_version 34 = .ok (.iload_n 2, 1) := by decide +kernel
theorem dX7_version_35 : decode cX7_version 35 = .ok (.iconst (-1), 1) := by decide +kernel
theorem dX7_version_36 : decode cX7_version 36 = .ok (.if_icmp .ne 15, 3) := by decide +kernel
theorem dX7_version_39 : decode cX7_version 39 = .ok (.aload_n 0, 1) := by decide +kernel
theorem dX7_version_40 : decode cX7_version 40 = .ok (.getfield 7, 3) := by decide +kernel
theorem dX7_version_43 : decode cX7_version 43 = .ok (.bipush 126, 2) := by decide +kernel
theorem dX7_version_45 : decode cX7_version 45 = .ok (.iload_n 1, 1) := by decide +kernel
theorem dX7_version_46 : decode cX7_version 46 = .ok (.iadd, 1) := by decide +kernel
theorem dX7_version_47 : decode cX7_version 47 = .ok (.iaload, 1) := by decide +kernel
theorem dX7_version_48 : decode cX7_version 48 = .ok (.goto 17, 3) := by decide +kernel
theorem dX7_version_51 : decode cX7_version 51 = .ok (.aload_n 0, 1) := by decide +kernel
theorem dX7_version_52 : decode cX7_version 52 = .ok (.getfield 7, 3) := by decide +kernel
theorem dX7_version_55 : decode cX7_version 55 = .ok (.bipush 90, 2) := by decide +kernel
theorem dX7_version_57 : decode cX7_version 57 = .ok (.bipush 6, 2) := by decide +kernel
theorem dX7_version_59 : decode cX7_version 59 = .ok (.iload_n 1, 1) := by decide +kernel
theorem dX7_version_60 : decode cX7_version 60 = .ok (.imul, 1) := by decide +kernel
theorem dX7_version_61 : decode cX7_version 61 = .ok (.iadd, 1) := by decide +kernel
theorem dX7_version_62 : decode cX7_version 62 = .ok (.iload_n 2, 1) := by decide +kernel
theorem dX7_version_63 : decode cX7_version 63 = .ok (.iadd, 1) := by decide +kernel
theorem dX7_version_64 : decode cX7_version 64 = .ok (.iaload, 1) := by decide +kernel
theorem dX7_version_65 : decode cX7_version 65 = .ok (.ireturn, 1) := by decide +kernel
set_option maxRecDepth 20000 in
theorem ggX7_changedSince_X7_isUser : GoodIn wsX7_changedSince wsX7_isUser := goodIn_r _ [6, 7, 8, 5, 9] (by decide +kernel) (by decide +kernel)
set_option maxRecDepth 20000 in
theorem gX7_changedSince_X7_isUser : GoodIn wsX7_changedSince (va_wsS RX7 40 yX7_isUser wsX7_isUser) := goodIn_app (goodIn_of _ (by decide +kernel)) ggX7_changedSince_X7_isUser
theorem dX7_changedSince_0 : decode cX7_changedSince 0 = .ok (.aload_n 0, 1) := by decide +kernel
theorem dX7_changedSince_1 : decode cX7_changedSince 1 = .ok (.iload_n 1, 1) := by decide +kernel
theorem dX7_changedSince_2 : decode cX7_changedSince 2 = .ok (.invokestatic 40, 3) := by decide +kernel
theorem dX7_changedSince_5 : decode cX7_changedSince 5 = .ok (.ifCond .ne 7, 3) := by decide +kernel
theorem dX7_changedSince_8 : decode cX7_changedSince 8 = .ok (.iconst 1, 1) := by decide +kernel
theorem dX7_changedSince_9 : decode cX7_changedSince 9 = .ok (.goto 12, 3) := by decide +kernel
theorem dX7_changedSince_12 : decode cX7_changedSince 12 = .ok (.iload_n 2, 1) := by decide +kernel
theorem dX7_changedSince_13 : decode cX7_changedSince 13 = .ok (.ifCond .ge 7, 3) := by decide +kernel
theorem dX7_changedSince_16 : decode cX7_changedSince 16 = .ok (.iconst 2, 1) := by decide +kernel
theorem dX7_changedSince_17 : decode cX7_changedSince 17 = .ok (.goto 4, 3) := by decide +kernel
theorem dX7_changedSince_20 : decode cX7_changedSince 20 = .ok (.iconst 0, 1) := by decide +kernel
theorem dX7_changedSince_21 : decode cX7_changedSince 21 = .ok (.putfield 25, 3) := by decide +kernel
theorem dX7_changedSince_24 : decode cX7_changedSince 24 = .ok (.aload_n 0, 1) := by decide +kernel
theorem dX7_changedSince_25 : decode cX7_changedSince 25 = .ok (.getfield 25, 3) := by decide +kernel
theorem dX7_changedSince_28 : decode cX7_changedSince 28 = .ok (.ifCond .eq 5, 3) := by decide +kernel
theorem dX7_changedSince_31 : decode cX7_changedSince 31 = .ok (.iconst 0, 1) := by decide +kernel
theorem dX7_changedSince_32 : decode cX7_changedSince 32 = .ok (.ireturn, 1) := by decide +kernel
theorem dX7_changedSince_33 : decode cX7_changedSince 33 = .ok (.iconst 0, 1) := by decide +kernel
theorem dX7_changedSince_34 : decode cX7_changedSince 34 = .ok (.istore_n 3, 1) := by decide +kernel
theorem dX7_changedSince_35 : decode cX7_changedSince 35 = .ok (.iconst 0, 1) := by decide +kernel
theorem dX7_changedSince_36 : decode cX7_changedSince 36 = .ok (.istore 4, 2) := by decide +kernel
theorem dX7_changedSince_38 : decode cX7_changedSince 38 = .ok (.iload 4, 2) := by decide +kernel
theorem dX7_changedSince_40 : decode cX7_changedSince 40 = .ok (.bipush 6, 2) := by decide +kernel
theorem dX7_changedSince_42 : decode cX7_changedSince 42 = .ok (.if_icmp .ge 36, 3) := by decide +kernel
theorem dX7_changedSince_45 : decode cX7_changedSince 45 = .ok (.iload_n 3, 1) := by decide +kernel
theorem dX7_changedSince_46 : decode cX7_changedSince 46 = .ok (.aload_n 0, 1) := by decide +kernel
theorem dX7_changedSince_47 : decode cX7_changedSince 47 = .ok (.getfield 7, 3) := by decide +kernel
theorem dX7_changedSince_50 : decode cX7_changedSince 50 = .ok (.bipush 90, 2) := by decide +kernel
theorem dX7_changedSince_52 : decode cX7_changedSince 52 = .ok (.bipush 6, 2) := by decide +kernel
theorem dX7_changedSince_54 : decode cX7_changedSince 54 = .ok (.iload_n 1, 1) := by decide +kernel
theorem dX7_changedSince_55 : decode cX7_changedSince 55 = .ok (.imul, 1) := by decide +kernel
theorem dX7_changedSince_56 : decode cX7_changedSince 56 = .ok (.iadd, 1) := by decide +kernel
theorem dX7_changedSince_57 : decode cX7_changedSince 57 = .ok (.iload 4, 2) := by decide +kernel
theorem dX7_changedSince_59 : decode cX7_changedSince 59 = .ok (.iadd, 1) := by decide +kernel
theorem dX7_changedSince_60 : decode cX7_changedSince 60 = .ok (.iaload, 1) := by decide +kernel
theorem dX7_changedSince_61 : decode cX7_changedSince 61 = .ok (.iload_n 2, 1) := by decide +kernel
theorem dX7_changedSince_62 : decode cX7_changedSince 62 = .ok (.if_icmp .le 7, 3) := by decide +kernel
theorem dX7_changedSince_65 : decode cX7_changedSince 65 = .ok (.iconst 1, 1) := by decide +kernel
theorem dX7_changedSince_66 : decode cX7_changedSince 66 = .ok (.goto 4, 3) := by decide +kernel
theorem dX7_changedSince_69 : decode cX7_changedSince 69 = .ok (.iconst 0, 1) := by decide +kernel
theorem dX7_changedSince_70 : decode cX7_changedSince 70 = .ok (.iadd, 1) := by decide +kernel
theorem dX7_changedSince_71 : decode cX7_changedSince 71 = .ok (.istore_n 3, 1) := by decide +kernel
theorem dX7_changedSince_72 : decode cX7_changedSince 72 = .ok (.iinc 4 1, 3) := by decide +kernel
theorem dX7_changedSince_75 : decode cX7_changedSince 75 = .ok (.goto (-37), 3) := by decide +kernel
theorem dX7_changedSince_78 : decode cX7_changedSince 78 = .ok (.iload_n 3, 1) := by decide +kernel
theorem dX7_changedSince_79 : decode cX7_changedSince 79 = .ok (.ireturn, 1) := by decide +kernel
set_option maxRecDepth 20000 in
theorem ggX7_view_X7_isUser : GoodIn wsX7_view wsX7_isUser := goodIn_r _ [6, 7, 8, 5, 9] (by decide +kernel) (by decide +kernel)
set_option maxRecDepth 20000 in
theorem gX7_view_X7_isUser : GoodIn wsX7_view (va_wsS RX7 40 yX7_isUser wsX7_isUser) := goodIn_app (goodIn_of _ (by decide +kernel)) ggX7_view_X7_isUser
set_option maxRecDepth 20000 in
theorem ggX7_view_X7_isSeat : GoodIn wsX7_view wsX7_isSeat := goodIn_r _ [12, 3, 4, 5, 6, 7, 8, 9] (by decide +kernel) (by decide +kernel)
set_option maxRecDepth 20000 in
theorem gX7_view_X7_isSeat : GoodIn wsX7_view (va_wsS RX7 118 yX7_isSeat wsX7_isSeat) := goodIn_app (goodIn_of _ (by decide +kernel)) ggX7_view_X7_isSeat
set_option maxRecDepth 20000 in
theorem ggX7_view_X7_viewCell : GoodIn wsX7_view wsX7_viewCell := goodIn_r _ [15] (by decide +kernel) (by decide +kernel)
set_option maxRecDepth 20000 in
theorem gX7_view_X7_viewCell : GoodIn wsX7_view (va_wsS RX7 51 yX7_viewCell wsX7_viewCell) := goodIn_app (goodIn_of _ (by decide +kernel)) ggX7_view_X7_viewCell
theorem dX7_view_0 : decode cX7_view 0 = .ok (.aload_n 0, 1) := by decide +kernel
theorem dX7_view_1 : decode cX7_view 1 = .ok (.iload_n 1, 1) := by decide +kernel
theorem dX7_view_2 : decode cX7_view 2 = .ok (.invokestatic 40, 3) := by decide +kernel
theorem dX7_view_5 : decode cX7_view 5 = .ok (.ifCond .eq 11, 3) := by decide +kernel
theorem dX7_view_8 : decode cX7_view 8 = .ok (.iload_n 2, 1) := by decide +kernel
theorem dX7_view_9 : decode cX7_view 9 = .ok (.iload_n 3, 1) := by decide +kernel
theorem dX7_view_10 : decode cX7_view 10 = .ok (.invokestatic 118, 3) := by decide +kernel
theorem dX7_view_13 : decode cX7_view 13 = .ok (.ifCond .ne 7, 3) := by decide +kernel
theorem dX7_view_16 : decode cX7_view 16 = .ok (.iconst 1, 1) := by decide +kernel
theorem dX7_view_17 : decode cX7_view 17 = .ok (.goto 13, 3) := by decide +kernel
theorem dX7_view_20 : decode cX7_view 20 = .ok (.iload_n 1, 1) := by decide +kernel
theorem dX7_view_21 : decode cX7_view 21 = .ok (.iload_n 2, 1) := by decide +kernel
theorem dX7_view_22 : decode cX7_view 22 = .ok (.if_icmp .ne 7, 3) := by decide +kernel
theorem dX7_view_25 : decode cX7_view 25 = .ok (.iconst 2, 1) := by decide +kernel
theorem dX7_view_26 : decode cX7_view 26 = .ok (.goto 4, 3) := by decide +kernel
theorem dX7_view_29 : decode cX7_view 29 = .ok (.iconst 0, 1) := by decide +kernel
theorem dX7_view_30 : decode cX7_view 30 = .ok (.putfield 25, 3) := by decide +kernel
theorem dX7_view_33 : decode cX7_view 33 = .ok (.aload_n 0, 1) := by decide +kernel
theorem dX7_view_34 : decode cX7_view 34 = .ok (.getfield 25, 3) := by decide +kernel
theorem dX7_view_37 : decode cX7_view 37 = .ok (.ifCond .eq 7, 3) := by decide +kernel
theorem dX7_view_40 : decode cX7_view 40 = .ok (.iconst 0, 1) := by decide +kernel
theorem dX7_view_41 : decode cX7_view 41 = .ok (.goto 14, 3) := by decide +kernel
theorem dX7_view_44 : decode cX7_view 44 = .ok (.aload_n 0, 1) := by decide +kernel
theorem dX7_view_45 : decode cX7_view 45 = .ok (.getfield 7, 3) := by decide +kernel
theorem dX7_view_48 : decode cX7_view 48 = .ok (.iload_n 1, 1) := by decide +kernel
theorem dX7_view_49 : decode cX7_view 49 = .ok (.iload_n 2, 1) := by decide +kernel
theorem dX7_view_50 : decode cX7_view 50 = .ok (.iload_n 3, 1) := by decide +kernel
theorem dX7_view_51 : decode cX7_view 51 = .ok (.invokestatic 51, 3) := by decide +kernel
theorem dX7_view_54 : decode cX7_view 54 = .ok (.iaload, 1) := by decide +kernel
theorem dX7_view_55 : decode cX7_view 55 = .ok (.ireturn, 1) := by decide +kernel
set_option maxRecDepth 20000 in
theorem ggX7_areApart_X7_whyNot : GoodIn wsX7_areApart wsX7_whyNot := goodIn_r _ [5, 6, 7, 4, 8, 9, 10, 11] (by decide +kernel) (by decide +kernel)
set_option maxRecDepth 20000 in
theorem gX7_areApart_X7_whyNot : GoodIn wsX7_areApart (va_wsS RX7 97 yX7_whyNot wsX7_whyNot) := goodIn_app (goodIn_of _ (by decide +kernel)) ggX7_areApart_X7_whyNot
set_option maxRecDepth 20000 in
theorem ggX7_areApart_X7_apart : GoodIn wsX7_areApart wsX7_apart := goodIn_r _ [15, 16, 17, 18, 19, 20, 21, 22, 23, 24, 25, 26] (by decide +kernel) (by decide +kernel)
set_option maxRecDepth 20000 in
theorem gX7_areApart_X7_apart : GoodIn wsX7_areApart (wsV RX7 59 RX7 yX7_apart wsX7_apart) := goodIn_app (goodIn_of _ (by decide +kernel)) ggX7_areApart_X7_apart
theorem dX7_areApart_0 : decode cX7_areApart 0 = .ok (.aload_n 0, 1) := by decide +kernel
theorem dX7_areApart_1 : decode cX7_areApart 1 = .ok (.iload_n 1, 1) := by decide +kernel
theorem dX7_areApart_2 : decode cX7_areApart 2 = .ok (.iload_n 2, 1) := by decide +kernel
theorem dX7_areApart_3 : decode cX7_areApart 3 = .ok (.invokestatic 97, 3) := by decide +kernel
theorem dX7_areApart_6 : decode cX7_areApart 6 = .ok (.putfield 25, 3) := by decide +kernel
theorem dX7_areApart_9 : decode cX7_areApart 9 = .ok (.aload_n 0, 1) := by decide +kernel
theorem dX7_areApart_10 : decode cX7_areApart 10 = .ok (.getfield 25, 3) := by decide +kernel
theorem dX7_areApart_13 : decode cX7_areApart 13 = .ok (.ifCond .ne 16, 3) := by decide +kernel
theorem dX7_areApart_16 : decode cX7_areApart 16 = .ok (.aload_n 0, 1) := by decide +kernel
theorem dX7_areApart_17 : decode cX7_areApart 17 = .ok (.iload_n 1, 1) := by decide +kernel
theorem dX7_areApart_18 : decode cX7_areApart 18 = .ok (.iload_n 2, 1) := by decide +kernel
theorem dX7_areApart_19 : decode cX7_areApart 19 = .ok (.invokevirtual 59, 3) := by decide +kernel
theorem dX7_areApart_22 : decode cX7_areApart 22 = .ok (.ifCond .eq 7, 3) := by decide +kernel
theorem dX7_areApart_25 : decode cX7_areApart 25 = .ok (.iconst 1, 1) := by decide +kernel
theorem dX7_areApart_26 : decode cX7_areApart 26 = .ok (.goto 4, 3) := by decide +kernel
theorem dX7_areApart_29 : decode cX7_areApart 29 = .ok (.iconst 0, 1) := by decide +kernel
theorem dX7_areApart_30 : decode cX7_areApart 30 = .ok (.ireturn, 1) := by decide +kernel
set_option maxRecDepth 20000 in
theorem ggX7_agrees_X7_has : GoodIn wsX7_agrees wsX7_has := goodIn_r _ [5, 6, 7, 8, 4, 9, 10, 11, 12, 13, 14, 15, 16, 17, 18, 19, 20] (by decide +kernel) (by decide +kernel)
set_option maxRecDepth 20000 in
theorem gX7_agrees_X7_has : GoodIn wsX7_agrees (wsV RX7 73 RX7 yX7_has wsX7_has) := goodIn_app (goodIn_of _ (by decide +kernel)) ggX7_agrees_X7_has
theorem dX7_agrees_0 : decode cX7_agrees 0 = .ok (.aload_n 0, 1) := by decide +kernel
theorem dX7_agrees_1 : decode cX7_agrees 1 = .ok (.iload_n 1, 1) := by decide +kernel
theorem dX7_agrees_2 : decode cX7_agrees 2 = .ok (.iload_n 2, 1) := by decide +kernel
theorem dX7_agrees_3 : decode cX7_agrees 3 = .ok (.iconst 1, 1) := by decide +kernel
theorem dX7_agrees_4 : decode cX7_agrees 4 = .ok (.invokevirtual 73, 3) := by decide +kernel
theorem dX7_agrees_7 : decode cX7_agrees 7 = .ok (.aload_n 0, 1) := by decide +kernel
theorem dX7_agrees_8 : decode cX7_agrees 8 = .ok (.iload_n 2, 1) := by decide +kernel
theorem dX7_agrees_9 : decode cX7_agrees 9 = .ok (.iload_n 1, 1) := by decide +kernel
theorem dX7_agrees_10 : decode cX7_agrees 10 = .ok (.iconst 2, 1) := by decide +kernel
theorem dX7_agrees_11 : decode cX7_agrees 11 = .ok (.invokevirtual 73, 3) := by decide +kernel
theorem dX7_agrees_14 : decode cX7_agrees 14 = .ok (.if_icmp .ne 60, 3) := by decide +kernel
theorem dX7_agrees_17 : decode cX7_agrees 17 = .ok (.aload_n 0, 1) := by decide +kernel
theorem dX7_agrees_18 : decode cX7_agrees 18 = .ok (.iload_n 2, 1) := by decide +kernel
theorem dX7_agrees_19 : decode cX7_agrees 19 = .ok (.iload_n 1, 1) := by decide +kernel
theorem dX7_agrees_20 : decode cX7_agrees 20 = .ok (.iconst 1, 1) := by decide +kernel
theorem dX7_agrees_21 : decode cX7_agrees 21 = .ok (.invokevirtual 73, 3) := by decide +kernel
theorem dX7_agrees_24 : decode cX7_agrees 24 = .ok (.aload_n 0, 1) := by decide +kernel
theorem dX7_agrees_25 : decode cX7_agrees 25 = .ok (.iload_n 1, 1) := by decide +kernel
theorem dX7_agrees_26 : decode cX7_agrees 26 = .ok (.iload_n 2, 1) := by decide +kernel
theorem dX7_agrees_27 : decode cX7_agrees 27 = .ok (.iconst 2, 1) := by decide +kernel
theorem dX7_agrees_28 : decode cX7_agrees 28 = .ok (.invokevirtual 73, 3) := by decide +kernel
theorem dX7_agrees_31 : decode cX7_agrees 31 = .ok (.if_icmp .ne 43, 3) := by decide +kernel
theorem dX7_agrees_34 : decode cX7_agrees 34 = .ok (.aload_n 0, 1) := by decide +kernel
theorem dX7_agrees_35 : decode cX7_agrees 35 = .ok (.iload_n 1, 1) := by decide +kernel
theorem dX7_agrees_36 : decode cX7_agrees 36 = .ok (.iload_n 2, 1) := by decide +kernel
theorem dX7_agrees_37 : decode cX7_agrees 37 = .ok (.iconst 4, 1) := by decide +kernel
theorem dX7_agrees_38 : decode cX7_agrees 38 = .ok (.invokevirtual 73, 3) := by decide +kernel
theorem dX7_agrees_41 : decode cX7_agrees 41 = .ok (.aload_n 0, 1) := by decide +kernel
theorem dX7_agrees_42 : decode cX7_agrees 42 = .ok (.iload_n 2, 1) := by decide +kernel
theorem dX7_agrees_43 : decode cX7_agrees 43 = .ok (.iload_n 1, 1) := by decide +kernel
theorem dX7_agrees_44 : decode cX7_agrees 44 = .ok (.bipush 8, 2) := by decide +kernel
theorem dX7_agrees_46 : decode cX7_agrees 46 = .ok (.invokevirtual 73, 3) := by decide +kernel
theorem dX7_agrees_49 : decode cX7_agrees 49 = .ok (.if_icmp .ne 25, 3) := by decide +kernel
theorem dX7_agrees_52 : decode cX7_agrees 52 = .ok (.aload_n 0, 1) := by decide +kernel
theorem dX7_agrees_53 : decode cX7_agrees 53 = .ok (.iload_n 2, 1) := by decide +kernel
theorem dX7_agrees_54 : decode cX7_agrees 54 = .ok (.iload_n 1, 1) := by decide +kernel
theorem dX7_agrees_55 : decode cX7_agrees 55 = .ok (.iconst 4, 1) := by decide +kernel
theorem dX7_agrees_56 : decode cX7_agrees 56 = .ok (.invokevirtual 73, 3) := by decide +kernel
theorem dX7_agrees_59 : decode cX7_agrees 59 = .ok (.aload_n 0, 1) := by decide +kernel
theorem dX7_agrees_60 : decode cX7_agrees 60 = .ok (.iload_n 1, 1) := by decide +kernel
theorem dX7_agrees_61 : decode cX7_agrees 61 = .ok (.iload_n 2, 1) := by decide +kernel
theorem dX7_agrees_62 : decode cX7_agrees 62 = .ok (.bipush 8, 2) := by decide +kernel
theorem dX7_agrees_64 : decode cX7_agrees 64 = .ok (.invokevirtual 73, 3) := by decide +kernel
theorem dX7_agrees_67 : decode cX7_agrees 67 = .ok (.if_icmp .ne 7, 3) := by decide +kernel
theorem dX7_agrees_70 : decode cX7_agrees 70 = .ok (.iconst 1, 1) := by decide +kernel
theorem dX7_agrees_71 : decode cX7_agrees 71 = .ok (.goto 4, 3) := by decide +kernel
theorem dX7_agrees_74 : decode cX7_agrees 74 = .ok (.iconst 0, 1) := by decide +kernel
theorem dX7_agrees_75 : decode cX7_agrees 75 = .ok (.ireturn, 1) := by decide +kernel
set_option maxRecDepth 20000 in
theorem ggX7_agree_X7_whyNot : GoodIn wsX7_agree wsX7_whyNot := goodIn_r _ [5, 6, 7, 4, 8, 9, 10, 11] (by decide +kernel) (by decide +kernel)
set_option maxRecDepth 20000 in
theorem gX7_agree_X7_whyNot : GoodIn wsX7_agree (va_wsS RX7 97 yX7_whyNot wsX7_whyNot) := goodIn_app (goodIn_of _ (by decide +kernel)) ggX7_agree_X7_whyNot
set_option maxRecDepth 20000 in
theorem ggX7_agree_X7_agrees : GoodIn wsX7_agree wsX7_agrees := goodIn_r _ [15, 16, 17, 18, 4, 19, 20, 21, 22, 23, 24, 25, 26, 27, 28, 29, 30, 31, 32, 33, 34] (by decide +kernel) (by decide +kernel)
set_option maxRecDepth 20000 in
theorem gX7_agree_X7_agrees : GoodIn wsX7_agree (wsV RX7 140 RX7 yX7_agrees wsX7_agrees) := goodIn_app (goodIn_of _ (by decide +kernel)) ggX7_agree_X7_agrees
theorem dX7_agree_0 : decode cX7_agree 0 = .ok (.aload_n 0, 1) := by decide +kernel
theorem dX7_agree_1 : decode cX7_agree 1 = .ok (.iload_n 1, 1) := by decide +kernel
theorem dX7_agree_2 : decode cX7_agree 2 = .ok (.iload_n 2, 1) := by decide +kernel
theorem dX7_agree_3 : decode cX7_agree 3 = .ok (.invokestatic 97, 3) := by decide +kernel
theorem dX7_agree_6 : decode cX7_agree 6 = .ok (.putfield 25, 3) := by decide +kernel
theorem dX7_agree_9 : decode cX7_agree 9 = .ok (.aload_n 0, 1) := by decide +kernel
theorem dX7_agree_10 : decode cX7_agree 10 = .ok (.getfield 25, 3) := by decide +kernel
theorem dX7_agree_13 : decode cX7_agree 13 = .ok (.ifCond .ne 16, 3) := by decide +kernel
theorem dX7_agree_16 : decode cX7_agree 16 = .ok (.aload_n 0, 1) := by decide +kernel
theorem dX7_agree_17 : decode cX7_agree 17 = .ok (.iload_n 1, 1) := by decide +kernel
theorem dX7_agree_18 : decode cX7_agree 18 = .ok (.iload_n 2, 1) := by decide +kernel
theorem dX7_agree_19 : decode cX7_agree 19 = .ok (.invokevirtual 140, 3) := by decide +kernel
theorem dX7_agree_22 : decode cX7_agree 22 = .ok (.ifCond .eq 7, 3) := by decide +kernel
theorem dX7_agree_25 : decode cX7_agree 25 = .ok (.iconst 1, 1) := by decide +kernel
theorem dX7_agree_26 : decode cX7_agree 26 = .ok (.goto 4, 3) := by decide +kernel
theorem dX7_agree_29 : decode cX7_agree 29 = .ok (.iconst 0, 1) := by decide +kernel
theorem dX7_agree_30 : decode cX7_agree 30 = .ok (.ireturn, 1) := by decide +kernel
set_option maxRecDepth 20000 in
theorem ggX7_pairsAgreeing_X7_agrees : GoodIn wsX7_pairsAgreeing wsX7_agrees := goodIn_r _ [5, 6, 7, 8, 4, 9, 10, 11, 12, 13, 14, 15, 16, 17, 18, 19, 20, 21, 22, 23, 24] (by decide +kernel) (by decide +kernel)
set_option maxRecDepth 20000 in
theorem gX7_pairsAgreeing_X7_agrees : GoodIn wsX7_pairsAgreeing (wsV RX7 140 RX7 yX7_agrees wsX7_agrees) := goodIn_app (goodIn_of _ (by decide +kernel)) ggX7_pairsAgreeing_X7_agrees
theorem dX7_pairsAgreeing_0 : decode cX7_pairsAgreeing 0 = .ok (.iconst 0, 1) := by decide +kernel
theorem dX7_pairsAgreeing_1 : decode cX7_pairsAgreeing 1 = .ok (.istore_n 1, 1) := by decide +kernel
theorem dX7_pairsAgreeing_2 : decode cX7_pairsAgreeing 2 = .ok (.iconst 0, 1) := by decide +kernel
theorem dX7_pairsAgreeing_3 : decode cX7_pairsAgreeing 3 = .ok (.istore_n 2, 1) := by decide +kernel
theorem dX7_pairsAgreeing_4 : decode cX7_pairsAgreeing 4 = .ok (.iload_n 2, 1) := by decide +kernel
theorem dX7_pairsAgreeing_5 : decode cX7_pairsAgreeing 5 = .ok (.bipush 6, 2) := by decide +kernel
theorem dX7_pairsAgreeing_7 : decode cX7_pairsAgreeing 7 = .ok (.if_icmp .ge 39, 3) := by decide +kernel
theorem dX7_pairsAgreeing_10 : decode cX7_pairsAgreeing 10 = .ok (.iconst 0, 1) := by decide +kernel
theorem dX7_pairsAgreeing_11 : decode cX7_pairsAgreeing 11 = .ok (.istore_n 3, 1) := by decide +kernel
theorem dX7_pairsAgreeing_12 : decode cX7_pairsAgreeing 12 = .ok (.iload_n 3, 1) := by decide +kernel
theorem dX7_pairsAgreeing_13 : decode cX7_pairsAgreeing 13 = .ok (.iload_n 2, 1) := by decide +kernel
theorem dX7_pairsAgreeing_14 : decode cX7_pairsAgreeing 14 = .ok (.if_icmp .ge 26, 3) := by decide +kernel
theorem dX7_pairsAgreeing_17 : decode cX7_pairsAgreeing 17 = .ok (.iload_n 1, 1) := by decide +kernel
theorem dX7_pairsAgreeing_18 : decode cX7_pairsAgreeing 18 = .ok (.aload_n 0, 1) := by decide +kernel
theorem dX7_pairsAgreeing_19 : decode cX7_pairsAgreeing 19 = .ok (.iload_n 2, 1) := by decide +kernel
theorem dX7_pairsAgreeing_20 : decode cX7_pairsAgreeing 20 = .ok (.iload_n 3, 1) := by decide +kernel
theorem dX7_pairsAgreeing_21 : decode cX7_pairsAgreeing 21 = .ok (.invokevirtual 140, 3) := by decide +kernel
theorem dX7_pairsAgreeing_24 : decode cX7_pairsAgreeing 24 = .ok (.ifCond .eq 7, 3) := by decide +kernel
theorem dX7_pairsAgreeing_27 : decode cX7_pairsAgreeing 27 = .ok (.iconst 1, 1) := by decide +kernel
theorem dX7_pairsAgreeing_28 : decode cX7_pairsAgreeing 28 = .ok (.goto 4, 3) := by decide +kernel
theorem dX7_pairsAgreeing_31 : decode cX7_pairsAgreeing 31 = .ok (.iconst 0, 1) := by decide +kernel
theorem dX7_pairsAgreeing_32 : decode cX7_pairsAgreeing 32 = .ok (.iadd, 1) := by decide +kernel
theorem dX7_pairsAgreeing_33 : decode cX7_pairsAgreeing 33 = .ok (.istore_n 1, 1) := by decide +kernel
theorem dX7_pairsAgreeing_34 : decode cX7_pairsAgreeing 34 = .ok (.iinc 3 1, 3) := by decide +kernel
theorem dX7_pairsAgreeing_37 : decode cX7_pairsAgreeing 37 = .ok (.goto (-25), 3) := by decide +kernel
theorem dX7_pairsAgreeing_40 : decode cX7_pairsAgreeing 40 = .ok (.iinc 2 1, 3) := by decide +kernel
theorem dX7_pairsAgreeing_43 : decode cX7_pairsAgreeing 43 = .ok (.goto (-39), 3) := by decide +kernel
theorem dX7_pairsAgreeing_46 : decode cX7_pairsAgreeing 46 = .ok (.iload_n 1, 1) := by decide +kernel
theorem dX7_pairsAgreeing_47 : decode cX7_pairsAgreeing 47 = .ok (.ireturn, 1) := by decide +kernel
set_option maxRecDepth 20000 in
theorem ggX7_agreeing_X7_pairsAgreeing : GoodIn wsX7_agreeing wsX7_pairsAgreeing := goodIn_r _ [6, 7, 8, 9, 5, 10, 11, 12, 13, 14, 15, 16, 17, 18, 19, 20, 21, 22, 23, 24, 25, 26, 27, 28, 29] (by decide +kernel) (by decide +kernel)
set_option maxRecDepth 20000 in
theorem gX7_agreeing_X7_pairsAgreeing : GoodIn wsX7_agreeing (wsV RX7 143 RX7 yX7_pairsAgreeing wsX7_pairsAgreeing) := goodIn_app (goodIn_of _ (by decide +kernel)) ggX7_agreeing_X7_pairsAgreeing
theorem dX7_agreeing_0 : decode cX7_agreeing 0 = .ok (.aload_n 0, 1) := by decide +kernel
theorem dX7_agreeing_1 : decode cX7_agreeing 1 = .ok (.iconst 0, 1) := by decide +kernel
theorem dX7_agreeing_2 : decode cX7_agreeing 2 = .ok (.putfield 25, 3) := by decide +kernel
theorem dX7_agreeing_5 : decode cX7_agreeing 5 = .ok (.aload_n 0, 1) := by decide +kernel
theorem dX7_agreeing_6 : decode cX7_agreeing 6 = .ok (.invokevirtual 143, 3) := by decide +kernel
theorem dX7_agreeing_9 : decode cX7_agreeing 9 = .ok (.ireturn, 1) := by decide +kernel
set_option maxRecDepth 20000 in
theorem ggX7_isWrong_X7_viewCell : GoodIn wsX7_isWrong wsX7_viewCell := goodIn_r _ [5] (by decide +kernel) (by decide +kernel)
set_option maxRecDepth 20000 in
theorem gX7_isWrong_X7_viewCell : GoodIn wsX7_isWrong (va_wsS RX7 51 yX7_viewCell wsX7_viewCell) := goodIn_app (goodIn_of _ (by decide +kernel)) ggX7_isWrong_X7_viewCell
set_option maxRecDepth 20000 in
theorem ggX7_isWrong_X7_isOn : GoodIn wsX7_isWrong wsX7_isOn := goodIn_r _ [9, 1, 10, 11, 4, 12, 25, 26, 27, 28, 29, 30, 31, 32, 33, 34] (by decide +kernel) (by decide +kernel)
set_option maxRecDepth 20000 in
theorem gX7_isWrong_X7_isOn : GoodIn wsX7_isWrong (wsV RX7 63 RX7 yX7_isOn wsX7_isOn) := goodIn_app (goodIn_of _ (by decide +kernel)) ggX7_isWrong_X7_isOn
set_option maxRecDepth 20000 in
theorem ggX7_isWrong_X7_has : GoodIn wsX7_isWrong wsX7_has := goodIn_r _ [16, 17, 18, 19, 4, 20, 1, 25, 26, 27, 28, 29, 30, 31, 32, 33, 34] (by decide +kernel) (by decide +kernel)
set_option maxRecDepth 20000 in
theorem gX7_isWrong_X7_has : GoodIn wsX7_isWrong (wsV RX7 73 RX7 yX7_has wsX7_has) := goodIn_app (goodIn_of _ (by decide +kernel)) ggX7_isWrong_X7_has
set_option maxRecDepth 20000 in
theorem ggX7_isWrong_X7_seatsOn : GoodIn wsX7_isWrong wsX7_seatsOn := goodIn_r _ [24, 1, 10, 11, 4, 12, 25, 26, 27, 28, 29, 30, 31, 32, 33, 34] (by decide +kernel) (by decide +kernel)
set_option maxRecDepth 20000 in
theorem gX7_isWrong_X7_seatsOn : GoodIn wsX7_isWrong (wsV RX7 86 RX7 yX7_seatsOn wsX7_seatsOn) := goodIn_app (goodIn_of _ (by decide +kernel)) ggX7_isWrong_X7_seatsOn
set_option maxRecDepth 20000 in
theorem ggX7_isWrong_X7_seatCell : GoodIn wsX7_isWrong wsX7_seatCell := goodIn_r _ [12] (by decide +kernel) (by decide +kernel)
set_option maxRecDepth 20000 in
theorem gX7_isWrong_X7_seatCell : GoodIn wsX7_isWrong (va_wsS RX7 44 yX7_seatCell wsX7_seatCell) := goodIn_app (goodIn_of _ (by decide +kernel)) ggX7_isWrong_X7_seatCell
theorem dX7_isWrong_0 : decode cX7_isWrong 0 = .ok (.aload_n 0, 1) := by decide +kernel
theorem dX7_isWrong_1 : decode cX7_isWrong 1 = .ok (.getfield 7, 3) := by decide +kernel
theorem dX7_isWrong_4 : decode cX7_isWrong 4 = .ok (.iload_n 1, 1) := by decide +kernel
theorem dX7_isWrong_5 : decode cX7_isWrong 5 = .ok (.iload_n 2, 1) := by decide +kernel
theorem dX7_isWrong_6 : decode cX7_isWrong 6 = .ok (.iload_n 3, 1) := by decide +kernel
theorem dX7_isWrong_7 : decode cX7_isWrong 7 = .ok (.invokestatic 51, 3) := by decide +kernel
theorem dX7_isWrong_10 : decode cX7_isWrong 10 = .ok (.iaload, 1) := by decide +kernel
theorem dX7_isWrong_11 : decode cX7_isWrong 11 = .ok (.istore 4, 2) := by decide +kernel
theorem dX7_isWrong_13 : decode cX7_isWrong 13 = .ok (.aload_n 0, 1) := by decide +kernel
theorem dX7_isWrong_14 : decode cX7_isWrong 14 = .ok (.iload_n 2, 1) := by decide +kernel
theorem dX7_isWrong_15 : decode cX7_isWrong 15 = .ok (.iload_n 3, 1) := by decide +kernel
theorem dX7_isWrong_16 : decode cX7_isWrong 16 = .ok (.invokevirtual 63, 3) := by decide +kernel
theorem dX7_isWrong_19 : decode cX7_isWrong 19 = .ok (.istore 5, 2) := by decide +kernel
theorem dX7_isWrong_21 : decode cX7_isWrong 21 = .ok (.aload_n 0, 1) := by decide +kernel
theorem dX7_isWrong_22 : decode cX7_isWrong 22 = .ok (.iload_n 1, 1) := by decide +kernel
theorem dX7_isWrong_23 : decode cX7_isWrong 23 = .ok (.iload_n 2, 1) := by decide +kernel
theorem dX7_isWrong_24 : decode cX7_isWrong 24 = .ok (.iconst 1, 1) := by decide +kernel
theorem dX7_isWrong_25 : decode cX7_isWrong 25 = .ok (.invokevirtual 73, 3) := by decide +kernel
theorem dX7_isWrong_28 : decode cX7_isWrong 28 = .ok (.istore 6, 2) := by decide +kernel
theorem dX7_isWrong_30 : decode cX7_isWrong 30 = .ok (.iload 4, 2) := by decide +kernel
theorem dX7_isWrong_32 : decode cX7_isWrong 32 = .ok (.iconst (-1), 1) := by decide +kernel
theorem dX7_isWrong_33 : decode cX7_isWrong 33 = .ok (.if_icmp .ne 29, 3) := by decide +kernel
theorem dX7_isWrong_36 : decode cX7_isWrong 36 = .ok (.iload 6, 2) := by decide +kernel
theorem dX7_isWrong_38 : decode cX7_isWrong 38 = .ok (.ifCond .eq 20, 3) := by decide +kernel
theorem dX7_isWrong_41 : decode cX7_isWrong 41 = .ok (.aload_n 0, 1) := by decide +kernel
theorem dX7_isWrong_42 : decode cX7_isWrong 42 = .ok (.iload_n 1, 1) := by decide +kernel
theorem dX7_isWrong_43 : decode cX7_isWrong 43 = .ok (.invokevirtual 86, 3) := by decide +kernel
theorem dX7_isWrong_46 : decode cX7_isWrong 46 = .ok (.ifCond .le 12, 3) := by decide +kernel
theorem dX7_isWrong_49 : decode cX7_isWrong 49 = .ok (.iload 5, 2) := by decide +kernel
theorem dX7_isWrong_51 : decode cX7_isWrong 51 = .ok (.ifCond .eq 7, 3) := by decide +kernel
theorem dX7_isWrong_54 : decode cX7_isWrong 54 = .ok (.iconst 1, 1) := by decide +kernel
theorem dX7_isWrong_55 : decode cX7_isWrong 55 = .ok (.goto 39, 3) := by decide +kernel
theorem dX7_isWrong_58 : decode cX7_isWrong 58 = .ok (.iconst 0, 1) := by decide +kernel
theorem dX7_isWrong_59 : decode cX7_isWrong 59 = .ok (.goto 35, 3) := by decide +kernel
theorem dX7_isWrong_62 : decode cX7_isWrong 62 = .ok (.iload 5, 2) := by decide +kernel
theorem dX7_isWrong_64 : decode cX7_isWrong 64 = .ok (.ifCond .eq 25, 3) := by decide +kernel
theorem dX7_isWrong_67 : decode cX7_isWrong 67 = .ok (.aload_n 0, 1) := by decide +kernel
theorem dX7_isWrong_68 : decode cX7_isWrong 68 = .ok (.getfield 7, 3) := by decide +kernel
theorem dX7_isWrong_71 : decode cX7_isWrong 71 = .ok (.iload_n 2, 1) := by decide +kernel
theorem dX7_isWrong_72 : decode cX7_isWrong 72 = .ok (.iload_n 3, 1) := by decide +kernel
theorem dX7_isWrong_73 : decode cX7_isWrong 73 = .ok (.invokestatic 44, 3) := by decide +kernel
theorem dX7_isWrong_76 : decode cX7_isWrong 76 = .ok (.iconst 2, 1) := by decide +kernel
theorem dX7_isWrong_77 : decode cX7_isWrong 77 = .ok (.iadd, 1) := by decide +kernel
theorem dX7_isWrong_78 : decode cX7_isWrong 78 = .ok (.iaload, 1) := by decide +kernel
theorem dX7_isWrong_79 : decode cX7_isWrong 79 = .ok (.iload 4, 2) := by decide +kernel
theorem dX7_isWrong_81 : decode cX7_isWrong 81 = .ok (.if_icmp .ne 8, 3) := by decide +kernel
theorem dX7_isWrong_84 : decode cX7_isWrong 84 = .ok (.iload 6, 2) := by decide +kernel
theorem dX7_isWrong_86 : decode cX7_isWrong 86 = .ok (.ifCond .ne 7, 3) := by decide +kernel
theorem dX7_isWrong_89 : decode cX7_isWrong 89 = .ok (.iconst 1, 1) := by decide +kernel
theorem dX7_isWrong_90 : decode cX7_isWrong 90 = .ok (.goto 4, 3) := by decide +kernel
theorem dX7_isWrong_93 : decode cX7_isWrong 93 = .ok (.iconst 0, 1) := by decide +kernel
theorem dX7_isWrong_94 : decode cX7_isWrong 94 = .ok (.ireturn, 1) := by decide +kernel
set_option maxRecDepth 20000 in
theorem ggX7_wrongViews_X7_isUser : GoodIn wsX7_wrongViews wsX7_isUser := goodIn_r _ [5, 6, 7, 4, 8] (by decide +kernel) (by decide +kernel)
set_option maxRecDepth 20000 in
theorem gX7_wrongViews_X7_isUser : GoodIn wsX7_wrongViews (va_wsS RX7 40 yX7_isUser wsX7_isUser) := goodIn_app (goodIn_of _ (by decide +kernel)) ggX7_wrongViews_X7_isUser
set_option maxRecDepth 20000 in
theorem ggX7_wrongViews_X7_isWrong : GoodIn wsX7_wrongViews wsX7_isWrong := goodIn_r _ [12, 13, 14, 15, 4, 16, 17, 18, 19, 20, 21, 22, 23, 24, 25, 26, 27, 28, 29, 30, 31, 32, 33, 34, 35, 36, 37, 38, 39, 40, 41, 42, 43, 44, 45] (by decide +kernel) (by decide +kernel)
set_option maxRecDepth 20000 in
theorem gX7_wrongViews_X7_isWrong : GoodIn wsX7_wrongViews (wsV RX7 147 RX7 yX7_isWrong wsX7_isWrong) := goodIn_app (goodIn_of _ (by decide +kernel)) ggX7_wrongViews_X7_isWrong
theorem dX7_wrongViews_0 : decode cX7_wrongViews 0 = .ok (.aload_n 0, 1) := by decide +kernel
theorem dX7_wrongViews_1 : decode cX7_wrongViews 1 = .ok (.iload_n 1, 1) := by decide +kernel
theorem dX7_wrongViews_2 : decode cX7_wrongViews 2 = .ok (.invokestatic 40, 3) := by decide +kernel
theorem dX7_wrongViews_5 : decode cX7_wrongViews 5 = .ok (.ifCond .eq 7, 3) := by decide +kernel
theorem dX7_wrongViews_8 : decode cX7_wrongViews 8 = .ok (.iconst 0, 1) := by decide +kernel
theorem dX7_wrongViews_9 : decode cX7_wrongViews 9 = .ok (.goto 4, 3) := by decide +kernel
theorem dX7_wrongViews_12 : decode cX7_wrongViews 12 = .ok (.iconst 1, 1) := by decide +kernel
theorem dX7_wrongViews_13 : decode cX7_wrongViews 13 = .ok (.putfield 25, 3) := by decide +kernel
theorem dX7_wrongViews_16 : decode cX7_wrongViews 16 = .ok (.aload_n 0, 1) := by decide +kernel
theorem dX7_wrongViews_17 : decode cX7_wrongViews 17 = .ok (.getfield 25, 3) := by decide +kernel
theorem dX7_wrongViews_20 : decode cX7_wrongViews 20 = .ok (.ifCond .eq 5, 3) := by decide +kernel
theorem dX7_wrongViews_23 : decode cX7_wrongViews 23 = .ok (.iconst 0, 1) := by decide +kernel
theorem dX7_wrongViews_24 : decode cX7_wrongViews 24 = .ok (.ireturn, 1) := by decide +kernel
theorem dX7_wrongViews_25 : decode cX7_wrongViews 25 = .ok (.iconst 0, 1) := by decide +kernel
theorem dX7_wrongViews_26 : decode cX7_wrongViews 26 = .ok (.istore_n 2, 1) := by decide +kernel
theorem dX7_wrongViews_27 : decode cX7_wrongViews 27 = .ok (.iconst 0, 1) := by decide +kernel
theorem dX7_wrongViews_28 : decode cX7_wrongViews 28 = .ok (.istore_n 3, 1) := by decide +kernel
theorem dX7_wrongViews_29 : decode cX7_wrongViews 29 = .ok (.iload_n 3, 1) := by decide +kernel
theorem dX7_wrongViews_30 : decode cX7_wrongViews 30 = .ok (.bipush 6, 2) := by decide +kernel
theorem dX7_wrongViews_32 : decode cX7_wrongViews 32 = .ok (.if_icmp .ge 48, 3) := by decide +kernel
theorem dX7_wrongViews_35 : decode cX7_wrongViews 35 = .ok (.iconst 0, 1) := by decide +kernel
theorem dX7_wrongViews_36 : decode cX7_wrongViews 36 = .ok (.istore 4, 2) := by decide +kernel
theorem dX7_wrongViews_38 : decode cX7_wrongViews 38 = .ok (.iload 4, 2) := by decide +kernel
theorem dX7_wrongViews_40 : decode cX7_wrongViews 40 = .ok (.iconst 3, 1) := by decide +kernel
theorem dX7_wrongViews_41 : decode cX7_wrongViews 41 = .ok (.if_icmp .ge 33, 3) := by decide +kernel
theorem dX7_wrongViews_44 : decode cX7_wrongViews 44 = .ok (.iload_n 2, 1) := by decide +kernel
theorem dX7_wrongViews_45 : decode cX7_wrongViews 45 = .ok (.iload_n 3, 1) := by decide +kernel
theorem dX7_wrongViews_46 : decode cX7_wrongViews 46 = .ok (.iload_n 1, 1) := by decide +kernel
theorem dX7_wrongViews_47 : decode cX7_wrongViews 47 = .ok (.if_icmp .eq 18, 3) := by decide +kernel
theorem dX7_wrongViews_50 : decode cX7_wrongViews 50 = .ok (.aload_n 0, 1) := by decide +kernel
theorem dX7_wrongViews_51 : decode cX7_wrongViews 51 = .ok (.iload_n 1, 1) := by decide +kernel
theorem dX7_wrongViews_52 : decode cX7_wrongViews 52 = .ok (.iload_n 3, 1) := by decide +kernel
theorem dX7_wrongViews_53 : decode cX7_wrongViews 53 = .ok (.iload 4, 2) := by decide +kernel
theorem dX7_wrongViews_55 : decode cX7_wrongViews 55 = .ok (.invokevirtual 147, 3) := by decide +kernel
theorem dX7_wrongViews_58 : decode cX7_wrongViews 58 = .ok (.ifCond .eq 7, 3) := by decide +kernel
theorem dX7_wrongViews_61 : decode cX7_wrongViews 61 = .ok (.iconst 1, 1) := by decide +kernel
theorem dX7_wrongViews_62 : decode cX7_wrongViews 62 = .ok (.goto 4, 3) := by decide +kernel
theorem dX7_wrongViews_65 : decode cX7_wrongViews 65 = .ok (.iconst 0, 1) := by decide +kernel
theorem dX7_wrongViews_66 : decode cX7_wrongViews 66 = .ok (.iadd, 1) := by decide +kernel
theorem dX7_wrongViews_67 : decode cX7_wrongViews 67 = .ok (.istore_n 2, 1) := by decide +kernel
theorem dX7_wrongViews_68 : decode cX7_wrongViews 68 = .ok (.iinc 4 1, 3) := by decide +kernel
theorem dX7_wrongViews_71 : decode cX7_wrongViews 71 = .ok (.goto (-33), 3) := by decide +kernel
theorem dX7_wrongViews_74 : decode cX7_wrongViews 74 = .ok (.iinc 3 1, 3) := by decide +kernel
theorem dX7_wrongViews_77 : decode cX7_wrongViews 77 = .ok (.goto (-48), 3) := by decide +kernel
theorem dX7_wrongViews_80 : decode cX7_wrongViews 80 = .ok (.iload_n 2, 1) := by decide +kernel
theorem dX7_wrongViews_81 : decode cX7_wrongViews 81 = .ok (.ireturn, 1) := by decide +kernel
set_option maxRecDepth 20000 in
theorem ggX7_rest_X7_delivers : GoodIn wsX7_rest wsX7_delivers := goodIn_r _ [6, 1, 7, 8, 9, 5, 10, 11, 12, 13, 14, 15, 16, 17, 18, 19, 20, 21, 22, 23, 24, 25, 26, 27, 28, 29, 30, 31, 32, 33, 34, 35, 36, 37, 38, 39, 40, 41, 42, 43, 44, 45, 46, 47, 48, 49, 50, 51, 52, 53, 54, 55, 56, 57, 58, 59, 60, 61, 62, 63, 64, 65, 66, 67, 68, 69, 70, 71, 72, 73] (by decide +kernel) (by decide +kernel)
set_option maxRecDepth 20000 in
theorem gX7_rest_X7_delivers : GoodIn wsX7_rest (wsV RX7 128 RX7 yX7_delivers wsX7_delivers) := goodIn_app (goodIn_of _ (by decide +kernel)) ggX7_rest_X7_delivers
theorem dX7_rest_0 : decode cX7_rest 0 = .ok (.aload_n 0, 1) := by decide +kernel
theorem dX7_rest_1 : decode cX7_rest 1 = .ok (.sipush 1000, 3) := by decide +kernel
theorem dX7_rest_4 : decode cX7_rest 4 = .ok (.invokevirtual 128, 3) := by decide +kernel
theorem dX7_rest_7 : decode cX7_rest 7 = .ok (.istore_n 1, 1) := by decide +kernel
theorem dX7_rest_8 : decode cX7_rest 8 = .ok (.aload_n 0, 1) := by decide +kernel
theorem dX7_rest_9 : decode cX7_rest 9 = .ok (.getfield 7, 3) := by decide +kernel
theorem dX7_rest_12 : decode cX7_rest 12 = .ok (.sipush 577, 3) := by decide +kernel
theorem dX7_rest_15 : decode cX7_rest 15 = .ok (.iaload, 1) := by decide +kernel
theorem dX7_rest_16 : decode cX7_rest 16 = .ok (.ifCond .le 7, 3) := by decide +kernel
theorem dX7_rest_19 : decode cX7_rest 19 = .ok (.iconst (-1), 1) := by decide +kernel
theorem dX7_rest_20 : decode cX7_rest 20 = .ok (.goto 4, 3) := by decide +kernel
theorem dX7_rest_23 : decode cX7_rest 23 = .ok (.iload_n 1, 1) := by decide +kernel
theorem dX7_rest_24 : decode cX7_rest 24 = .ok (.ireturn, 1) := by decide +kernel
set_option maxRecDepth 20000 in
theorem ggX7_untilRest_X7_bring : GoodIn wsX7_untilRest wsX7_bring := goodIn_r _ [7] (by decide +kernel) (by decide +kernel)
set_option maxRecDepth 20000 in
theorem gX7_untilRest_X7_bring : GoodIn wsX7_untilRest (va_wsS RX7 32 yX7_bring wsX7_bring) := goodIn_app (goodIn_of _ (by decide +kernel)) ggX7_untilRest_X7_bring
set_option maxRecDepth 20000 in
theorem ggX7_untilRest_X7_rest : GoodIn wsX7_untilRest wsX7_rest := goodIn_r _ [11, 2, 12, 13, 14, 6, 15, 16, 17, 18, 19, 20, 21, 22, 23, 24, 25, 26, 27, 28, 29, 30, 31, 32, 33, 34, 35, 36, 37, 38, 39, 40, 41, 42, 43, 44, 45, 46, 47, 48, 49, 50, 51, 52, 53, 54, 55, 56, 57, 58, 59, 60, 61, 62, 63, 64, 65, 66, 67, 68, 69, 70, 71, 72, 73, 74, 75, 76, 77, 78, 79, 80, 81, 82] (by decide +kernel) (by decide +kernel)
set_option maxRecDepth 20000 in
theorem gX7_untilRest_X7_rest : GoodIn wsX7_untilRest (wsV RX7 150 RX7 yX7_rest wsX7_rest) := goodIn_app (goodIn_of _ (by decide +kernel)) ggX7_untilRest_X7_rest
theorem dX7_untilRest_0 : decode cX7_untilRest 0 = .ok (.aload_n 0, 1) := by decide +kernel
theorem dX7_untilRest_1 : decode cX7_untilRest 1 = .ok (.iconst 0, 1) := by decide +kernel
theorem dX7_untilRest_2 : decode cX7_untilRest 2 = .ok (.putfield 25, 3) := by decide +kernel
theorem dX7_untilRest_5 : decode cX7_untilRest 5 = .ok (.aload_n 0, 1) := by decide +kernel
theorem dX7_untilRest_6 : decode cX7_untilRest 6 = .ok (.getfield 7, 3) := by decide +kernel
theorem dX7_untilRest_9 : decode cX7_untilRest 9 = .ok (.iconst 0, 1) := by decide +kernel
theorem dX7_untilRest_10 : decode cX7_untilRest 10 = .ok (.aload_n 0, 1) := by decide +kernel
theorem dX7_untilRest_11 : decode cX7_untilRest 11 = .ok (.getfield 13, 3) := by decide +kernel
theorem dX7_untilRest_14 : decode cX7_untilRest 14 = .ok (.iconst 0, 1) := by decide +kernel
theorem dX7_untilRest_15 : decode cX7_untilRest 15 = .ok (.invokestatic 32, 3) := by decide +kernel
theorem dX7_untilRest_18 : decode cX7_untilRest 18 = .ok (.aload_n 0, 1) := by decide +kernel
theorem dX7_untilRest_19 : decode cX7_untilRest 19 = .ok (.invokevirtual 150, 3) := by decide +kernel
theorem dX7_untilRest_22 : decode cX7_untilRest 22 = .ok (.istore_n 1, 1) := by decide +kernel
theorem dX7_untilRest_23 : decode cX7_untilRest 23 = .ok (.aload_n 0, 1) := by decide +kernel
theorem dX7_untilRest_24 : decode cX7_untilRest 24 = .ok (.getfield 13, 3) := by decide +kernel
theorem dX7_untilRest_27 : decode cX7_untilRest 27 = .ok (.iconst 0, 1) := by decide +kernel
theorem dX7_untilRest_28 : decode cX7_untilRest 28 = .ok (.aload_n 0, 1) := by decide +kernel
theorem dX7_untilRest_29 : decode cX7_untilRest 29 = .ok (.getfield 7, 3) := by decide +kernel
theorem dX7_untilRest_32 : decode cX7_untilRest 32 = .ok (.iconst 0, 1) := by decide +kernel
theorem dX7_untilRest_33 : decode cX7_untilRest 33 = .ok (.invokestatic 32, 3) := by decide +kernel
theorem dX7_untilRest_36 : decode cX7_untilRest 36 = .ok (.iload_n 1, 1) := by decide +kernel
theorem dX7_untilRest_37 : decode cX7_untilRest 37 = .ok (.ireturn, 1) := by decide +kernel
set_option maxRecDepth 20000 in
theorem ggX7_agreeingAtRest_X7_bring : GoodIn wsX7_agreeingAtRest wsX7_bring := goodIn_r _ [7] (by decide +kernel) (by decide +kernel)
set_option maxRecDepth 20000 in
theorem gX7_agreeingAtRest_X7_bring : GoodIn wsX7_agreeingAtRest (va_wsS RX7 32 yX7_bring wsX7_bring) := goodIn_app (goodIn_of _ (by decide +kernel)) ggX7_agreeingAtRest_X7_bring
set_option maxRecDepth 20000 in
theorem ggX7_agreeingAtRest_X7_rest : GoodIn wsX7_agreeingAtRest wsX7_rest := goodIn_r _ [11, 2, 12, 13, 14, 6, 15, 16, 17, 18, 19, 20, 21, 22, 23, 24, 25, 26, 27, 28, 29, 30, 31, 32, 33, 34, 35, 36, 37, 38, 39, 40, 41, 42, 43, 44, 45, 46, 47, 48, 49, 50, 51, 52, 53, 54, 55, 56, 57, 58, 59, 60, 61, 62, 63, 64, 65, 66, 67, 68, 69, 70, 71, 72, 81, 82, 83, 84, 85, 86, 87, 88, 89, 90] (by decide +kernel) (by decide +kernel)
set_option maxRecDepth 20000 in
theorem gX7_agreeingAtRest_X7_rest : GoodIn wsX7_agreeingAtRest (wsV RX7 150 RX7 yX7_rest wsX7_rest) := goodIn_app (goodIn_of _ (by decide +kernel)) ggX7_agreeingAtRest_X7_rest
set_option maxRecDepth 20000 in
theorem ggX7_agreeingAtRest_X7_pairsAgreeing : GoodIn wsX7_agreeingAtRest wsX7_pairsAgreeing := goodIn_r _ [76, 77, 78, 79, 6, 80, 31, 32, 33, 34, 27, 28, 29, 30, 2, 81, 82, 83, 84, 85, 86, 87, 88, 89, 90] (by decide +kernel) (by decide +kernel)
set_option maxRecDepth 20000 in
theorem gX7_agreeingAtRest_X7_pairsAgreeing : GoodIn wsX7_agreeingAtRest (wsV RX7 143 RX7 yX7_pairsAgreeing wsX7_pairsAgreeing) := goodIn_app (goodIn_of _ (by decide +kernel)) ggX7_agreeingAtRest_X7_pairsAgreeing
theorem dX7_agreeingAtRest_0 : decode cX7_agreeingAtRest 0 = .ok (.aload_n 0, 1) := by decide +kernel
theorem dX7_agreeingAtRest_1 : decode cX7_agreeingAtRest 1 = .ok (.iconst 0, 1) := by decide +kernel
theorem dX7_agreeingAtRest_2 : decode cX7_agreeingAtRest 2 = .ok (.putfield 25, 3) := by decide +kernel
theorem dX7_agreeingAtRest_5 : decode cX7_agreeingAtRest 5 = .ok (.aload_n 0, 1) := by decide +kernel
theorem dX7_agreeingAtRest_6 : decode cX7_agreeingAtRest 6 = .ok (.getfield 7, 3) := by decide +kernel
theorem dX7_agreeingAtRest_9 : decode cX7_agreeingAtRest 9 = .ok (.iconst 0, 1) := by decide +kernel
theorem dX7_agreeingAtRest_10 : decode cX7_agreeingAtRest 10 = .ok (.aload_n 0, 1) := by decide +kernel
theorem dX7_agreeingAtRest_11 : decode cX7_agreeingAtRest 11 = .ok (.getfield 13, 3) := by decide +kernel
theorem dX7_agreeingAtRest_14 : decode cX7_agreeingAtRest 14 = .ok (.iconst 0, 1) := by decide +kernel
theorem dX7_agreeingAtRest_15 : decode cX7_agreeingAtRest 15 = .ok (.invokestatic 32, 3) := by decide +kernel
theorem dX7_agreeingAtRest_18 : decode cX7_agreeingAtRest 18 = .ok (.aload_n 0, 1) := by decide +kernel
theorem dX7_agreeingAtRest_19 : decode cX7_agreeingAtRest 19 = .ok (.invokevirtual 150, 3) := by decide +kernel
theorem dX7_agreeingAtRest_22 : decode cX7_agreeingAtRest 22 = .ok (.iconst (-1), 1) := by decide +kernel
theorem dX7_agreeingAtRest_23 : decode cX7_agreeingAtRest 23 = .ok (.if_icmp .ne 7, 3) := by decide +kernel
theorem dX7_agreeingAtRest_26 : decode cX7_agreeingAtRest 26 = .ok (.iconst (-1), 1) := by decide +kernel
theorem dX7_agreeingAtRest_27 : decode cX7_agreeingAtRest 27 = .ok (.goto 7, 3) := by decide +kernel
theorem dX7_agreeingAtRest_30 : decode cX7_agreeingAtRest 30 = .ok (.aload_n 0, 1) := by decide +kernel
theorem dX7_agreeingAtRest_31 : decode cX7_agreeingAtRest 31 = .ok (.invokevirtual 143, 3) := by decide +kernel
theorem dX7_agreeingAtRest_34 : decode cX7_agreeingAtRest 34 = .ok (.istore_n 1, 1) := by decide +kernel
theorem dX7_agreeingAtRest_35 : decode cX7_agreeingAtRest 35 = .ok (.aload_n 0, 1) := by decide +kernel
theorem dX7_agreeingAtRest_36 : decode cX7_agreeingAtRest 36 = .ok (.getfield 13, 3) := by decide +kernel
theorem dX7_agreeingAtRest_39 : decode cX7_agreeingAtRest 39 = .ok (.iconst 0, 1) := by decide +kernel
theorem dX7_agreeingAtRest_40 : decode cX7_agreeingAtRest 40 = .ok (.aload_n 0, 1) := by decide +kernel
theorem dX7_agreeingAtRest_41 : decode cX7_agreeingAtRest 41 = .ok (.getfield 7, 3) := by decide +kernel
theorem dX7_agreeingAtRest_44 : decode cX7_agreeingAtRest 44 = .ok (.iconst 0, 1) := by decide +kernel
theorem dX7_agreeingAtRest_45 : decode cX7_agreeingAtRest 45 = .ok (.invokestatic 32, 3) := by decide +kernel
theorem dX7_agreeingAtRest_48 : decode cX7_agreeingAtRest 48 = .ok (.iload_n 1, 1) := by decide +kernel
theorem dX7_agreeingAtRest_49 : decode cX7_agreeingAtRest 49 = .ok (.ireturn, 1) := by decide +kernel
set_option maxRecDepth 20000 in
theorem ggX7_mostNeeded_X7_bring : GoodIn wsX7_mostNeeded wsX7_bring := goodIn_r _ [7] (by decide +kernel) (by decide +kernel)
set_option maxRecDepth 20000 in
theorem gX7_mostNeeded_X7_bring : GoodIn wsX7_mostNeeded (va_wsS RX7 32 yX7_bring wsX7_bring) := goodIn_app (goodIn_of _ (by decide +kernel)) ggX7_mostNeeded_X7_bring
set_option maxRecDepth 20000 in
theorem ggX7_mostNeeded_X7_drops : GoodIn wsX7_mostNeeded wsX7_drops := goodIn_r _ [11, 2, 12, 13, 14, 6, 15, 85, 86, 87, 88, 89, 90, 91, 92, 93, 94] (by decide +kernel) (by decide +kernel)
set_option maxRecDepth 20000 in
theorem gX7_mostNeeded_X7_drops : GoodIn wsX7_mostNeeded (wsV RX7 134 RX7 yX7_drops wsX7_drops) := goodIn_app (goodIn_of _ (by decide +kernel)) ggX7_mostNeeded_X7_drops
set_option maxRecDepth 20000 in
theorem ggX7_mostNeeded_X7_rest : GoodIn wsX7_mostNeeded wsX7_rest := goodIn_r _ [19, 2, 20, 21, 22, 6, 23, 12, 13, 14, 15, 24, 25, 26, 27, 28, 29, 30, 31, 32, 33, 34, 35, 36, 37, 38, 39, 40, 41, 42, 43, 44, 45, 46, 47, 48, 49, 50, 51, 52, 53, 54, 55, 56, 57, 58, 59, 60, 61, 62, 63, 64, 65, 66, 67, 68, 69, 70, 71, 72, 73, 74, 75, 76, 85, 86, 87, 88, 89, 90, 91, 92, 93, 94] (by decide +kernel) (by decide +kernel)
set_option maxRecDepth 20000 in
theorem gX7_mostNeeded_X7_rest : GoodIn wsX7_mostNeeded (wsV RX7 150 RX7 yX7_rest wsX7_rest) := goodIn_app (goodIn_of _ (by decide +kernel)) ggX7_mostNeeded_X7_rest
set_option maxRecDepth 20000 in
theorem ggX7_mostNeeded_X7_pairsAgreeing : GoodIn wsX7_mostNeeded wsX7_pairsAgreeing := goodIn_r _ [80, 81, 82, 83, 6, 84, 35, 36, 37, 38, 31, 32, 33, 34, 2, 85, 86, 87, 88, 89, 90, 91, 92, 93, 94] (by decide +kernel) (by decide +kernel)
set_option maxRecDepth 20000 in
theorem gX7_mostNeeded_X7_pairsAgreeing : GoodIn wsX7_mostNeeded (wsV RX7 143 RX7 yX7_pairsAgreeing wsX7_pairsAgreeing) := goodIn_app (goodIn_of _ (by decide +kernel)) ggX7_mostNeeded_X7_pairsAgreeing
theorem dX7_mostNeeded_0 : decode cX7_mostNeeded 0 = .ok (.aload_n 0, 1) := by decide +kernel
theorem dX7_mostNeeded_1 : decode cX7_mostNeeded 1 = .ok (.iconst 0, 1) := by decide +kernel
theorem dX7_mostNeeded_2 : decode cX7_mostNeeded 2 = .ok (.putfield 25, 3) := by decide +kernel
theorem dX7_mostNeeded_5 : decode cX7_mostNeeded 5 = .ok (.aload_n 0, 1) := by decide +kernel
theorem dX7_mostNeeded_6 : decode cX7_mostNeeded 6 = .ok (.getfield 7, 3) := by decide +kernel
theorem dX7_mostNeeded_9 : decode cX7_mostNeeded 9 = .ok (.iconst 0, 1) := by decide +kernel
theorem dX7_mostNeeded_10 : decode cX7_mostNeeded 10 = .ok (.aload_n 0, 1) := by decide +kernel
theorem dX7_mostNeeded_11 : decode cX7_mostNeeded 11 = .ok (.getfield 13, 3) := by decide +kernel
theorem dX7_mostNeeded_14 : decode cX7_mostNeeded 14 = .ok (.iconst 0, 1) := by decide +kernel
theorem dX7_mostNeeded_15 : decode cX7_mostNeeded 15 = .ok (.invokestatic 32, 3) := by decide +kernel
theorem dX7_mostNeeded_18 : decode cX7_mostNeeded 18 = .ok (.iconst (-1), 1) := by decide +kernel
theorem dX7_mostNeeded_19 : decode cX7_mostNeeded 19 = .ok (.istore_n 1, 1) := by decide +kernel
theorem dX7_mostNeeded_20 : decode cX7_mostNeeded 20 = .ok (.iconst 0, 1) := by decide +kernel
theorem dX7_mostNeeded_21 : decode cX7_mostNeeded 21 = .ok (.istore_n 2, 1) := by decide +kernel
theorem dX7_mostNeeded_22 : decode cX7_mostNeeded 22 = .ok (.iconst 0, 1) := by decide +kernel
theorem dX7_mostNeeded_23 : decode cX7_mostNeeded 23 = .ok (.istore_n 3, 1) := by decide +kernel
theorem dX7_mostNeeded_24 : decode cX7_mostNeeded 24 = .ok (.iconst 0, 1) := by decide +kernel
theorem dX7_mostNeeded_25 : decode cX7_mostNeeded 25 = .ok (.istore 4, 2) := by decide +kernel
theorem dX7_mostNeeded_27 : decode cX7_mostNeeded 27 = .ok (.iload 4, 2) := by decide +kernel
theorem dX7_mostNeeded_29 : decode cX7_mostNeeded 29 = .ok (.aload_n 0, 1) := by decide +kernel
theorem dX7_mostNeeded_30 : decode cX7_mostNeeded 30 = .ok (.getfield 13, 3) := by decide +kernel
theorem dX7_mostNeeded_33 : decode cX7_mostNeeded 33 = .ok (.sipush 577, 3) := by decide +kernel
theorem dX7_mostNeeded_36 : decode cX7_mostNeeded 36 = .ok (.iaload, 1) := by decide +kernel
theorem dX7_mostNeeded_37 : decode cX7_mostNeeded 37 = .ok (.if_icmp .ge 69, 3) := by decide +kernel
theorem dX7_mostNeeded_40 : decode cX7_mostNeeded 40 = .ok (.iload_n 3, 1) := by decide +kernel
theorem dX7_mostNeeded_41 : decode cX7_mostNeeded 41 = .ok (.ifCond .ne 65, 3) := by decide +kernel
theorem dX7_mostNeeded_44 : decode cX7_mostNeeded 44 = .ok (.aload_n 0, 1) := by decide +kernel
theorem dX7_mostNeeded_45 : decode cX7_mostNeeded 45 = .ok (.iload 4, 2) := by decide +kernel
theorem dX7_mostNeeded_47 : decode cX7_mostNeeded 47 = .ok (.invokevirtual 134, 3) := by decide +kernel
theorem dX7_mostNeeded_50 : decode cX7_mostNeeded 50 = .ok (.aload_n 0, 1) := by decide +kernel
theorem dX7_mostNeeded_51 : decode cX7_mostNeeded 51 = .ok (.invokevirtual 150, 3) := by decide +kernel
theorem dX7_mostNeeded_54 : decode cX7_mostNeeded 54 = .ok (.iconst (-1), 1) := by decide +kernel
theorem dX7_mostNeeded_55 : decode cX7_mostNeeded 55 = .ok (.if_icmp .ne 7, 3) := by decide +kernel
theorem dX7_mostNeeded_58 : decode cX7_mostNeeded 58 = .ok (.iconst 1, 1) := by decide +kernel
theorem dX7_mostNeeded_59 : decode cX7_mostNeeded 59 = .ok (.goto 4, 3) := by decide +kernel
theorem dX7_mostNeeded_62 : decode cX7_mostNeeded 62 = .ok (.iconst 0, 1) := by decide +kernel
theorem dX7_mostNeeded_63 : decode cX7_mostNeeded 63 = .ok (.istore_n 3, 1) := by decide +kernel
theorem dX7_mostNeeded_64 : decode cX7_mostNeeded 64 = .ok (.aload_n 0, 1) := by decide +kernel
theorem dX7_mostNeeded_65 : decode cX7_mostNeeded 65 = .ok (.invokevirtual 143, 3) := by decide +kernel
theorem dX7_mostNeeded_68 : decode cX7_mostNeeded 68 = .ok (.istore 5, 2) := by decide +kernel
theorem dX7_mostNeeded_70 : decode cX7_mostNeeded 70 = .ok (.iload_n 1, 1) := by decide +kernel
theorem dX7_mostNeeded_71 : decode cX7_mostNeeded 71 = .ok (.iconst (-1), 1) := by decide +kernel
theorem dX7_mostNeeded_72 : decode cX7_mostNeeded 72 = .ok (.if_icmp .eq 9, 3) := by decide +kernel
theorem dX7_mostNeeded_75 : decode cX7_mostNeeded 75 = .ok (.iload 5, 2) := by decide +kernel
theorem dX7_mostNeeded_77 : decode cX7_mostNeeded 77 = .ok (.iload_n 2, 1) := by decide +kernel
theorem dX7_mostNeeded_78 : decode cX7_mostNeeded 78 = .ok (.if_icmp .ge 9, 3) := by decide +kernel
theorem dX7_mostNeeded_81 : decode cX7_mostNeeded 81 = .ok (.iload 4, 2) := by decide +kernel
theorem dX7_mostNeeded_83 : decode cX7_mostNeeded 83 = .ok (.istore_n 1, 1) := by decide +kernel
theorem dX7_mostNeeded_84 : decode cX7_mostNeeded 84 = .ok (.iload 5, 2) := by decide +kernel
theorem dX7_mostNeeded_86 : decode cX7_mostNeeded 86 = .ok (.istore_n 2, 1) := by decide +kernel
theorem dX7_mostNeeded_87 : decode cX7_mostNeeded 87 = .ok (.aload_n 0, 1) := by decide +kernel
theorem dX7_mostNeeded_88 : decode cX7_mostNeeded 88 = .ok (.getfield 13, 3) := by decide +kernel
theorem dX7_mostNeeded_91 : decode cX7_mostNeeded 91 = .ok (.iconst 0, 1) := by decide +kernel
theorem dX7_mostNeeded_92 : decode cX7_mostNeeded 92 = .ok (.aload_n 0, 1) := by decide +kernel
theorem dX7_mostNeeded_93 : decode cX7_mostNeeded 93 = .ok (.getfield 7, 3) := by decide +kernel
theorem dX7_mostNeeded_96 : decode cX7_mostNeeded 96 = .ok (.iconst 0, 1) := by decide +kernel
theorem dX7_mostNeeded_97 : decode cX7_mostNeeded 97 = .ok (.invokestatic 32, 3) := by decide +kernel
theorem dX7_mostNeeded_100 : decode cX7_mostNeeded 100 = .ok (.iinc 4 1, 3) := by decide +kernel
theorem dX7_mostNeeded_103 : decode cX7_mostNeeded 103 = .ok (.goto (-76), 3) := by decide +kernel
theorem dX7_mostNeeded_106 : decode cX7_mostNeeded 106 = .ok (.iload_n 3, 1) := by decide +kernel
theorem dX7_mostNeeded_107 : decode cX7_mostNeeded 107 = .ok (.ifCond .eq 7, 3) := by decide +kernel
theorem dX7_mostNeeded_110 : decode cX7_mostNeeded 110 = .ok (.iconst (-1), 1) := by decide +kernel
theorem dX7_mostNeeded_111 : decode cX7_mostNeeded 111 = .ok (.goto 4, 3) := by decide +kernel
theorem dX7_mostNeeded_114 : decode cX7_mostNeeded 114 = .ok (.iload_n 1, 1) := by decide +kernel
theorem dX7_mostNeeded_115 : decode cX7_mostNeeded 115 = .ok (.ireturn, 1) := by decide +kernel
set_option maxRecDepth 20000 in
theorem ggX7_visible_X7_viewCell : GoodIn wsX7_visible wsX7_viewCell := goodIn_r _ [7] (by decide +kernel) (by decide +kernel)
set_option maxRecDepth 20000 in
theorem gX7_visible_X7_viewCell : GoodIn wsX7_visible (va_wsS RX7 51 yX7_viewCell wsX7_viewCell) := goodIn_app (goodIn_of _ (by decide +kernel)) ggX7_visible_X7_viewCell
theorem dX7_visible_0 : decode cX7_visible 0 = .ok (.aload_n 0, 1) := by decide +kernel
theorem dX7_visible_1 : decode cX7_visible 1 = .ok (.iconst 0, 1) := by decide +kernel
theorem dX7_visible_2 : decode cX7_visible 2 = .ok (.putfield 25, 3) := by decide +kernel
theorem dX7_visible_5 : decode cX7_visible 5 = .ok (.iconst 0, 1) := by decide +kernel
theorem dX7_visible_6 : decode cX7_visible 6 = .ok (.istore_n 1, 1) := by decide +kernel
theorem dX7_visible_7 : decode cX7_visible 7 = .ok (.iconst 0, 1) := by decide +kernel
theorem dX7_visible_8 : decode cX7_visible 8 = .ok (.istore_n 2, 1) := by decide +kernel
theorem dX7_visible_9 : decode cX7_visible 9 = .ok (.iload_n 2, 1) := by decide +kernel
theorem dX7_visible_10 : decode cX7_visible 10 = .ok (.bipush 6, 2) := by decide +kernel
theorem dX7_visible_12 : decode cX7_visible 12 = .ok (.if_icmp .ge 82, 3) := by decide +kernel
theorem dX7_visible_15 : decode cX7_visible 15 = .ok (.iconst 0, 1) := by decide +kernel
theorem dX7_visible_16 : decode cX7_visible 16 = .ok (.istore_n 3, 1) := by decide +kernel
theorem dX7_visible_17 : decode cX7_visible 17 = .ok (.iload_n 3, 1) := by decide +kernel
theorem dX7_visible_18 : decode cX7_visible 18 = .ok (.bipush 6, 2) := by decide +kernel
theorem dX7_visible_20 : decode cX7_visible 20 = .ok (.if_icmp .ge 68, 3) := by decide +kernel
theorem dX7_visible_23 : decode cX7_visible 23 = .ok (.iconst 0, 1) := by decide +kernel
theorem dX7_visible_24 : decode cX7_visible 24 = .ok (.istore 4, 2) := by decide +kernel
theorem dX7_visible_26 : decode cX7_visible 26 = .ok (.iconst 0, 1) := by decide +kernel
theorem dX7_visible_27 : decode cX7_visible 27 = .ok (.istore 5, 2) := by decide +kernel
theorem dX7_visible_29 : decode cX7_visible 29 = .ok (.iload 5, 2) := by decide +kernel
theorem dX7_visible_31 : decode cX7_visible 31 = .ok (.iconst 3, 1) := by decide +kernel
theorem dX7_visible_32 : decode cX7_visible 32 = .ok (.if_icmp .ge 37, 3) := by decide +kernel
theorem dX7_visible_35 : decode cX7_visible 35 = .ok (.iload 4, 2) := by decide +kernel
theorem dX7_visible_37 : decode cX7_visible 37 = .ok (.ifCond .ne 19, 3) := by decide +kernel
theorem dX7_visible_40 : decode cX7_visible 40 = .ok (.aload_n 0, 1) := by decide +kernel
theorem dX7_visible_41 : decode cX7_visible 41 = .ok (.getfield 7, 3) := by decide +kernel
theorem dX7_visible_44 : decode cX7_visible 44 = .ok (.iload_n 2, 1) := by decide +kernel
theorem dX7_visible_45 : decode cX7_visible 45 = .ok (.iload_n 3, 1) := by decide +kernel
theorem dX7_visible_46 : decode cX7_visible 46 = .ok (.iload 5, 2) := by decide +kernel
theorem dX7_visible_48 : decode cX7_visible 48 = .ok (.invokestatic 51, 3) := by decide +kernel
theorem dX7_visible_51 : decode cX7_visible 51 = .ok (.iaload, 1) := by decide +kernel
theorem dX7_visible_52 : decode cX7_visible 52 = .ok (.iconst (-1), 1) := by decide +kernel
theorem dX7_visible_53 : decode cX7_visible 53 = .ok (.if_icmp .eq 7, 3) := by decide +kernel
theorem dX7_visible_56 : decode cX7_visible 56 = .ok (.iconst 1, 1) := by decide +kernel
theorem dX7_visible_57 : decode cX7_visible 57 = .ok (.goto 4, 3) := by decide +kernel
theorem dX7_visible_60 : decode cX7_visible 60 = .ok (.iconst 0, 1) := by decide +kernel
theorem dX7_visible_61 : decode cX7_visible 61 = .ok (.istore 4, 2) := by decide +kernel
theorem dX7_visible_63 : decode cX7_visible 63 = .ok (.iinc 5 1, 3) := by decide +kernel
theorem dX7_visible_66 : decode cX7_visible 66 = .ok (.goto (-37), 3) := by decide +kernel
theorem dX7_visible_69 : decode cX7_visible 69 = .ok (.iload_n 1, 1) := by decide +kernel
theorem dX7_visible_70 : decode cX7_visible 70 = .ok (.iload 4, 2) := by decide +kernel
theorem dX7_visible_72 : decode cX7_visible 72 = .ok (.ifCond .eq 7, 3) := by decide +kernel
theorem dX7_visible_75 : decode cX7_visible 75 = .ok (.iconst 1, 1) := by decide +kernel
theorem dX7_visible_76 : decode cX7_visible 76 = .ok (.goto 4, 3) := by decide +kernel
theorem dX7_visible_79 : decode cX7_visible 79 = .ok (.iconst 0, 1) := by decide +kernel
theorem dX7_visible_80 : decode cX7_visible 80 = .ok (.iadd, 1) := by decide +kernel
theorem dX7_visible_81 : decode cX7_visible 81 = .ok (.istore_n 1, 1) := by decide +kernel
theorem dX7_visible_82 : decode cX7_visible 82 = .ok (.iinc 3 1, 3) := by decide +kernel
theorem dX7_visible_85 : decode cX7_visible 85 = .ok (.goto (-68), 3) := by decide +kernel
theorem dX7_visible_88 : decode cX7_visible 88 = .ok (.iinc 2 1, 3) := by decide +kernel
theorem dX7_visible_91 : decode cX7_visible 91 = .ok (.goto (-82), 3) := by decide +kernel
theorem dX7_visible_94 : decode cX7_visible 94 = .ok (.iload_n 1, 1) := by decide +kernel
theorem dX7_visible_95 : decode cX7_visible 95 = .ok (.i2d, 1) := by decide +kernel
theorem dX7_visible_96 : decode cX7_visible 96 = .ok (.ldc2_w 153, 3) := by decide +kernel
theorem dX7_visible_99 : decode cX7_visible 99 = .ok (.ddiv, 1) := by decide +kernel
theorem dX7_visible_100 : decode cX7_visible 100 = .ok (.dreturn, 1) := by decide +kernel
set_option maxRecDepth 20000 in
theorem ggX7_append_X7_in : GoodIn wsX7_append wsX7_in := goodIn_r _ [7] (by decide +kernel) (by decide +kernel)
set_option maxRecDepth 20000 in
theorem gX7_append_X7_in : GoodIn wsX7_append (va_wsS RX7 36 yX7_in wsX7_in) := goodIn_app (goodIn_of _ (by decide +kernel)) ggX7_append_X7_in
theorem dX7_append_0 : decode cX7_append 0 = .ok (.aload_n 0, 1) := by decide +kernel
theorem dX7_append_1 : decode cX7_append 1 = .ok (.iload_n 1, 1) := by decide +kernel
theorem dX7_append_2 : decode cX7_append 2 = .ok (.iconst 0, 1) := by decide +kernel
theorem dX7_append_3 : decode cX7_append 3 = .ok (.bipush 127, 2) := by decide +kernel
theorem dX7_append_5 : decode cX7_append 5 = .ok (.invokestatic 36, 3) := by decide +kernel
theorem dX7_append_8 : decode cX7_append 8 = .ok (.ifCond .ne 7, 3) := by decide +kernel
theorem dX7_append_11 : decode cX7_append 11 = .ok (.iconst 1, 1) := by decide +kernel
theorem dX7_append_12 : decode cX7_append 12 = .ok (.goto 17, 3) := by decide +kernel
theorem dX7_append_15 : decode cX7_append 15 = .ok (.aload_n 0, 1) := by decide +kernel
theorem dX7_append_16 : decode cX7_append 16 = .ok (.getfield 155, 3) := by decide +kernel
theorem dX7_append_19 : decode cX7_append 19 = .ok (.bipush 100, 2) := by decide +kernel
theorem dX7_append_21 : decode cX7_append 21 = .ok (.if_icmp .ne 7, 3) := by decide +kernel
theorem dX7_append_24 : decode cX7_append 24 = .ok (.iconst 2, 1) := by decide +kernel
theorem dX7_append_25 : decode cX7_append 25 = .ok (.goto 4, 3) := by decide +kernel
theorem dX7_append_28 : decode cX7_append 28 = .ok (.iconst 0, 1) := by decide +kernel
theorem dX7_append_29 : decode cX7_append 29 = .ok (.putfield 25, 3) := by decide +kernel
theorem dX7_append_32 : decode cX7_append 32 = .ok (.aload_n 0, 1) := by decide +kernel
theorem dX7_append_33 : decode cX7_append 33 = .ok (.getfield 25, 3) := by decide +kernel
theorem dX7_append_36 : decode cX7_append 36 = .ok (.ifCond .eq 5, 3) := by decide +kernel
theorem dX7_append_39 : decode cX7_append 39 = .ok (.iconst 0, 1) := by decide +kernel
theorem dX7_append_40 : decode cX7_append 40 = .ok (.ireturn, 1) := by decide +kernel
theorem dX7_append_41 : decode cX7_append 41 = .ok (.aload_n 0, 1) := by decide +kernel
theorem dX7_append_42 : decode cX7_append 42 = .ok (.getfield 22, 3) := by decide +kernel
theorem dX7_append_45 : decode cX7_append 45 = .ok (.aload_n 0, 1) := by decide +kernel
theorem dX7_append_46 : decode cX7_append 46 = .ok (.getfield 155, 3) := by decide +kernel
theorem dX7_append_49 : decode cX7_append 49 = .ok (.iload_n 1, 1) := by decide +kernel
theorem dX7_append_50 : decode cX7_append 50 = .ok (.iastore, 1) := by decide +kernel
theorem dX7_append_51 : decode cX7_append 51 = .ok (.aload_n 0, 1) := by decide +kernel
theorem dX7_append_52 : decode cX7_append 52 = .ok (.dup, 1) := by decide +kernel
theorem dX7_append_53 : decode cX7_append 53 = .ok (.getfield 155, 3) := by decide +kernel
theorem dX7_append_56 : decode cX7_append 56 = .ok (.iconst 1, 1) := by decide +kernel
theorem dX7_append_57 : decode cX7_append 57 = .ok (.iadd, 1) := by decide +kernel
theorem dX7_append_58 : decode cX7_append 58 = .ok (.putfield 155, 3) := by decide +kernel
theorem dX7_append_61 : decode cX7_append 61 = .ok (.aload_n 0, 1) := by decide +kernel
theorem dX7_append_62 : decode cX7_append 62 = .ok (.getfield 155, 3) := by decide +kernel
theorem dX7_append_65 : decode cX7_append 65 = .ok (.ireturn, 1) := by decide +kernel
theorem dX7_clearText_0 : decode cX7_clearText 0 = .ok (.aload_n 0, 1) := by decide +kernel
theorem dX7_clearText_1 : decode cX7_clearText 1 = .ok (.iconst 0, 1) := by decide +kernel
theorem dX7_clearText_2 : decode cX7_clearText 2 = .ok (.putfield 25, 3) := by decide +kernel
theorem dX7_clearText_5 : decode cX7_clearText 5 = .ok (.aload_n 0, 1) := by decide +kernel
theorem dX7_clearText_6 : decode cX7_clearText 6 = .ok (.getfield 155, 3) := by decide +kernel
theorem dX7_clearText_9 : decode cX7_clearText 9 = .ok (.istore_n 1, 1) := by decide +kernel
theorem dX7_clearText_10 : decode cX7_clearText 10 = .ok (.aload_n 0, 1) := by decide +kernel
theorem dX7_clearText_11 : decode cX7_clearText 11 = .ok (.iconst 0, 1) := by decide +kernel
theorem dX7_clearText_12 : decode cX7_clearText 12 = .ok (.putfield 155, 3) := by decide +kernel
theorem dX7_clearText_15 : decode cX7_clearText 15 = .ok (.iload_n 1, 1) := by decide +kernel
theorem dX7_clearText_16 : decode cX7_clearText 16 = .ok (.ireturn, 1) := by decide +kernel
set_option maxRecDepth 20000 in
theorem ggX7_isDigit_X7_in : GoodIn wsX7_isDigit wsX7_in := goodIn_r _ [7] (by decide +kernel) (by decide +kernel)
set_option maxRecDepth 20000 in
theorem gX7_isDigit_X7_in : GoodIn wsX7_isDigit (va_wsS RX7 36 yX7_in wsX7_in) := goodIn_app (goodIn_of _ (by decide +kernel)) ggX7_isDigit_X7_in
theorem dX7_isDigit_0 : decode cX7_isDigit 0 = .ok (.aload_n 0, 1) := by decide +kernel
theorem dX7_isDigit_1 : decode cX7_isDigit 1 = .ok (.getfield 158, 3) := by decide +kernel
theorem dX7_isDigit_4 : decode cX7_isDigit 4 = .ok (.aload_n 0, 1) := by decide +kernel
theorem dX7_isDigit_5 : decode cX7_isDigit 5 = .ok (.getfield 155, 3) := by decide +kernel
theorem dX7_isDigit_8 : decode cX7_isDigit 8 = .ok (.if_icmp .ge 28, 3) := by decide +kernel
theorem dX7_isDigit_11 : decode cX7_isDigit 11 = .ok (.aload_n 0, 1) := by decide +kernel
theorem dX7_isDigit_12 : decode cX7_isDigit 12 = .ok (.getfield 22, 3) := by decide +kernel
theorem dX7_isDigit_15 : decode cX7_isDigit 15 = .ok (.aload_n 0, 1) := by decide +kernel
theorem dX7_isDigit_16 : decode cX7_isDigit 16 = .ok (.getfield 158, 3) := by decide +kernel
theorem dX7_isDigit_19 : decode cX7_isDigit 19 = .ok (.iaload, 1) := by decide +kernel
theorem dX7_isDigit_20 : decode cX7_isDigit 20 = .ok (.bipush 48, 2) := by decide +kernel
theorem dX7_isDigit_22 : decode cX7_isDigit 22 = .ok (.bipush 48, 2) := by decide +kernel
theorem dX7_isDigit_24 : decode cX7_isDigit 24 = .ok (.iload_n 1, 1) := by decide +kernel
theorem dX7_isDigit_25 : decode cX7_isDigit 25 = .ok (.iadd, 1) := by decide +kernel
theorem dX7_isDigit_26 : decode cX7_isDigit 26 = .ok (.invokestatic 36, 3) := by decide +kernel
theorem dX7_isDigit_29 : decode cX7_isDigit 29 = .ok (.ifCond .eq 7, 3) := by decide +kernel
theorem dX7_isDigit_32 : decode cX7_isDigit 32 = .ok (.iconst 1, 1) := by decide +kernel
theorem dX7_isDigit_33 : decode cX7_isDigit 33 = .ok (.goto 4, 3) := by decide +kernel
theorem dX7_isDigit_36 : decode cX7_isDigit 36 = .ok (.iconst 0, 1) := by decide +kernel
theorem dX7_isDigit_37 : decode cX7_isDigit 37 = .ok (.ireturn, 1) := by decide +kernel
theorem dX7_areUsers_0 : decode cX7_areUsers 0 = .ok (.iload_n 0, 1) := by decide +kernel
theorem dX7_areUsers_1 : decode cX7_areUsers 1 = .ok (.bipush 97, 2) := by decide +kernel
theorem dX7_areUsers_3 : decode cX7_areUsers 3 = .ok (.if_icmp .eq 21, 3) := by decide +kernel
theorem dX7_areUsers_6 : decode cX7_areUsers 6 = .ok (.iload_n 0, 1) := by decide +kernel
theorem dX7_areUsers_7 : decode cX7_areUsers 7 = .ok (.bipush 103, 2) := by decide +kernel
theorem dX7_areUsers_9 : decode cX7_areUsers 9 = .ok (.if_icmp .eq 15, 3) := by decide +kernel
theorem dX7_areUsers_12 : decode cX7_areUsers 12 = .ok (.iload_n 0, 1) := by decide +kernel
theorem dX7_areUsers_13 : decode cX7_areUsers 13 = .ok (.bipush 114, 2) := by decide +kernel
theorem dX7_areUsers_15 : decode cX7_areUsers 15 = .ok (.if_icmp .eq 9, 3) := by decide +kernel
theorem dX7_areUsers_18 : decode cX7_areUsers 18 = .ok (.iload_n 0, 1) := by decide +kernel
theorem dX7_areUsers_19 : decode cX7_areUsers 19 = .ok (.bipush 115, 2) := by decide +kernel
theorem dX7_areUsers_21 : decode cX7_areUsers 21 = .ok (.if_icmp .ne 7, 3) := by decide +kernel
theorem dX7_areUsers_24 : decode cX7_areUsers 24 = .ok (.iconst 1, 1) := by decide +kernel
theorem dX7_areUsers_25 : decode cX7_areUsers 25 = .ok (.goto 4, 3) := by decide +kernel
theorem dX7_areUsers_28 : decode cX7_areUsers 28 = .ok (.iconst 0, 1) := by decide +kernel
theorem dX7_areUsers_29 : decode cX7_areUsers 29 = .ok (.ireturn, 1) := by decide +kernel
set_option maxRecDepth 20000 in
theorem ggX7_readOrder_X7_areUsers : GoodIn wsX7_readOrder wsX7_areUsers := goodIn_r _ [7] (by decide +kernel) (by decide +kernel)
set_option maxRecDepth 20000 in
theorem gX7_readOrder_X7_areUsers : GoodIn wsX7_readOrder (va_wsS RX7 161 yX7_areUsers wsX7_areUsers) := goodIn_app (goodIn_of _ (by decide +kernel)) ggX7_readOrder_X7_areUsers
set_option maxRecDepth 20000 in
theorem ggX7_readOrder_X7_isDigit : GoodIn wsX7_readOrder wsX7_isDigit := goodIn_r _ [11, 2, 3, 1, 12, 13, 6, 14, 15, 16, 17, 18, 19, 20, 21, 22, 23, 24] (by decide +kernel) (by decide +kernel)
set_option maxRecDepth 20000 in
theorem gX7_readOrder_X7_isDigit : GoodIn wsX7_readOrder (wsV RX7 164 RX7 yX7_isDigit wsX7_isDigit) := goodIn_app (goodIn_of _ (by decide +kernel)) ggX7_readOrder_X7_isDigit
theorem dX7_readOrder_0 : decode cX7_readOrder 0 = .ok (.aload_n 0, 1) := by decide +kernel
theorem dX7_readOrder_1 : decode cX7_readOrder 1 = .ok (.getfield 22, 3) := by decide +kernel
theorem dX7_readOrder_4 : decode cX7_readOrder 4 = .ok (.aload_n 0, 1) := by decide +kernel
theorem dX7_readOrder_5 : decode cX7_readOrder 5 = .ok (.getfield 158, 3) := by decide +kernel
theorem dX7_readOrder_8 : decode cX7_readOrder 8 = .ok (.iaload, 1) := by decide +kernel
theorem dX7_readOrder_9 : decode cX7_readOrder 9 = .ok (.istore_n 1, 1) := by decide +kernel
theorem dX7_readOrder_10 : decode cX7_readOrder 10 = .ok (.iload_n 1, 1) := by decide +kernel
theorem dX7_readOrder_11 : decode cX7_readOrder 11 = .ok (.invokestatic 161, 3) := by decide +kernel
theorem dX7_readOrder_14 : decode cX7_readOrder 14 = .ok (.istore_n 2, 1) := by decide +kernel
theorem dX7_readOrder_15 : decode cX7_readOrder 15 = .ok (.iload_n 1, 1) := by decide +kernel
theorem dX7_readOrder_16 : decode cX7_readOrder 16 = .ok (.bipush 105, 2) := by decide +kernel
theorem dX7_readOrder_18 : decode cX7_readOrder 18 = .ok (.if_icmp .eq 9, 3) := by decide +kernel
theorem dX7_readOrder_21 : decode cX7_readOrder 21 = .ok (.iload_n 1, 1) := by decide +kernel
theorem dX7_readOrder_22 : decode cX7_readOrder 22 = .ok (.bipush 111, 2) := by decide +kernel
theorem dX7_readOrder_24 : decode cX7_readOrder 24 = .ok (.if_icmp .ne 7, 3) := by decide +kernel
theorem dX7_readOrder_27 : decode cX7_readOrder 27 = .ok (.iconst 1, 1) := by decide +kernel
theorem dX7_readOrder_28 : decode cX7_readOrder 28 = .ok (.goto 4, 3) := by decide +kernel
theorem dX7_readOrder_31 : decode cX7_readOrder 31 = .ok (.iconst 0, 1) := by decide +kernel
theorem dX7_readOrder_32 : decode cX7_readOrder 32 = .ok (.istore_n 3, 1) := by decide +kernel
theorem dX7_readOrder_33 : decode cX7_readOrder 33 = .ok (.iload_n 2, 1) := by decide +kernel
theorem dX7_readOrder_34 : decode cX7_readOrder 34 = .ok (.ifCond .ne 15, 3) := by decide +kernel
theorem dX7_readOrder_37 : decode cX7_readOrder 37 = .ok (.iload_n 3, 1) := by decide +kernel
theorem dX7_readOrder_38 : decode cX7_readOrder 38 = .ok (.ifCond .ne 11, 3) := by decide +kernel
theorem dX7_readOrder_41 : decode cX7_readOrder 41 = .ok (.iload_n 1, 1) := by decide +kernel
theorem dX7_readOrder_42 : decode cX7_readOrder 42 = .ok (.bipush 100, 2) := by decide +kernel
theorem dX7_readOrder_44 : decode cX7_readOrder 44 = .ok (.if_icmp .eq 5, 3) := by decide +kernel
theorem dX7_readOrder_47 : decode cX7_readOrder 47 = .ok (.iconst 0, 1) := by decide +kernel
theorem dX7_readOrder_48 : decode cX7_readOrder 48 = .ok (.ireturn, 1) := by decide +kernel
theorem dX7_readOrder_49 : decode cX7_readOrder 49 = .ok (.aload_n 0, 1) := by decide +kernel
theorem dX7_readOrder_50 : decode cX7_readOrder 50 = .ok (.dup, 1) := by decide +kernel
theorem dX7_readOrder_51 : decode cX7_readOrder 51 = .ok (.getfield 158, 3) := by decide +kernel
theorem dX7_readOrder_54 : decode cX7_readOrder 54 = .ok (.iconst 1, 1) := by decide +kernel
theorem dX7_readOrder_55 : decode cX7_readOrder 55 = .ok (.iadd, 1) := by decide +kernel
theorem dX7_readOrder_56 : decode cX7_readOrder 56 = .ok (.putfield 158, 3) := by decide +kernel
theorem dX7_readOrder_59 : decode cX7_readOrder 59 = .ok (.aload_n 0, 1) := by decide +kernel
theorem dX7_readOrder_60 : decode cX7_readOrder 60 = .ok (.iload_n 1, 1) := by decide +kernel
theorem dX7_readOrder_61 : decode cX7_readOrder 61 = .ok (.bipush 100, 2) := by decide +kernel
theorem dX7_readOrder_63 : decode cX7_readOrder 63 = .ok (.if_icmp .ne 8, 3) := by decide +kernel
theorem dX7_readOrder_66 : decode cX7_readOrder 66 = .ok (.bipush 9, 2) := by decide +kernel
theorem dX7_readOrder_68 : decode cX7_readOrder 68 = .ok (.goto 4, 3) := by decide +kernel
theorem dX7_readOrder_71 : decode cX7_readOrder 71 = .ok (.iconst 5, 1) := by decide +kernel
theorem dX7_readOrder_72 : decode cX7_readOrder 72 = .ok (.invokevirtual 164, 3) := by decide +kernel
theorem dX7_readOrder_75 : decode cX7_readOrder 75 = .ok (.ifCond .ne 5, 3) := by decide +kernel
theorem dX7_readOrder_78 : decode cX7_readOrder 78 = .ok (.iconst 0, 1) := by decide +kernel
theorem dX7_readOrder_79 : decode cX7_readOrder 79 = .ok (.ireturn, 1) := by decide +kernel
theorem dX7_readOrder_80 : decode cX7_readOrder 80 = .ok (.aload_n 0, 1) := by decide +kernel
theorem dX7_readOrder_81 : decode cX7_readOrder 81 = .ok (.getfield 22, 3) := by decide +kernel
theorem dX7_readOrder_84 : decode cX7_readOrder 84 = .ok (.aload_n 0, 1) := by decide +kernel
theorem dX7_readOrder_85 : decode cX7_readOrder 85 = .ok (.getfield 158, 3) := by decide +kernel
theorem dX7_readOrder_88 : decode cX7_readOrder 88 = .ok (.iaload, 1) := by decide +kernel
theorem dX7_readOrder_89 : decode cX7_readOrder 89 = .ok (.istore 4, 2) := by decide +kernel
theorem dX7_readOrder_91 : decode cX7_readOrder 91 = .ok (.aload_n 0, 1) := by decide +kernel
theorem dX7_readOrder_92 : decode cX7_readOrder 92 = .ok (.dup, 1) := by decide +kernel
theorem dX7_readOrder_93 : decode cX7_readOrder 93 = .ok (.getfield 158, 3) := by decide +kernel
theorem dX7_readOrder_96 : decode cX7_readOrder 96 = .ok (.iconst 1, 1) := by decide +kernel
theorem dX7_readOrder_97 : decode cX7_readOrder 97 = .ok (.iadd, 1) := by decide +kernel
theorem dX7_readOrder_98 : decode cX7_readOrder 98 = .ok (.putfield 158, 3) := by decide +kernel
theorem dX7_readOrder_101 : decode cX7_readOrder 101 = .ok (.aload_n 0, 1) := by decide +kernel
theorem dX7_readOrder_102 : decode cX7_readOrder 102 = .ok (.iload_n 1, 1) := by decide +kernel
theorem dX7_readOrder_103 : decode cX7_readOrder 103 = .ok (.bipush 100, 2) := by decide +kernel
theorem dX7_readOrder_105 : decode cX7_readOrder 105 = .ok (.if_icmp .ne 8, 3) := by decide +kernel
theorem dX7_readOrder_108 : decode cX7_readOrder 108 = .ok (.bipush 9, 2) := by decide +kernel
theorem dX7_readOrder_110 : decode cX7_readOrder 110 = .ok (.goto 12, 3) := by decide +kernel
theorem dX7_readOrder_113 : decode cX7_readOrder 113 = .ok (.iload_n 2, 1) := by decide +kernel
theorem dX7_readOrder_114 : decode cX7_readOrder 114 = .ok (.ifCond .eq 7, 3) := by decide +kernel
theorem dX7_readOrder_117 : decode cX7_readOrder 117 = .ok (.iconst 5, 1) := by decide +kernel
theorem dX7_readOrder_118 : decode cX7_readOrder 118 = .ok (.goto 4, 3) := by decide +kernel
theorem dX7_readOrder_121 : decode cX7_readOrder 121 = .ok (.iconst 2, 1) := by decide +kernel
theorem dX7_readOrder_122 : decode cX7_readOrder 122 = .ok (.invokevirtual 164, 3) := by decide +kernel
theorem dX7_readOrder_125 : decode cX7_readOrder 125 = .ok (.ifCond .eq 21, 3) := by decide +kernel
theorem dX7_readOrder_128 : decode cX7_readOrder 128 = .ok (.iload_n 2, 1) := by decide +kernel
theorem dX7_readOrder_129 : decode cX7_readOrder 129 = .ok (.ifCond .eq 19, 3) := by decide +kernel
theorem dX7_readOrder_132 : decode cX7_readOrder 132 = .ok (.aload_n 0, 1) := by decide +kernel
theorem dX7_readOrder_133 : decode cX7_readOrder 133 = .ok (.getfield 22, 3) := by decide +kernel
theorem dX7_readOrder_136 : decode cX7_readOrder 136 = .ok (.aload_n 0, 1) := by decide +kernel
theorem dX7_readOrder_137 : decode cX7_readOrder 137 = .ok (.getfield 158, 3) := by decide +kernel
theorem dX7_readOrder_140 : decode cX7_readOrder 140 = .ok (.iaload, 1) := by decide +kernel
theorem dX7_readOrder_141 : decode cX7_readOrder 141 = .ok (.iload 4, 2) := by decide +kernel
theorem dX7_readOrder_143 : decode cX7_readOrder 143 = .ok (.if_icmp .ne 5, 3) := by decide +kernel
theorem dX7_readOrder_146 : decode cX7_readOrder 146 = .ok (.iconst 0, 1) := by decide +kernel
theorem dX7_readOrder_147 : decode cX7_readOrder 147 = .ok (.ireturn, 1) := by decide +kernel
theorem dX7_readOrder_148 : decode cX7_readOrder 148 = .ok (.aload_n 0, 1) := by decide +kernel
theorem dX7_readOrder_149 : decode cX7_readOrder 149 = .ok (.dup, 1) := by decide +kernel
theorem dX7_readOrder_150 : decode cX7_readOrder 150 = .ok (.getfield 158, 3) := by decide +kernel
theorem dX7_readOrder_153 : decode cX7_readOrder 153 = .ok (.iconst 1, 1) := by decide +kernel
theorem dX7_readOrder_154 : decode cX7_readOrder 154 = .ok (.iadd, 1) := by decide +kernel
theorem dX7_readOrder_155 : decode cX7_readOrder 155 = .ok (.putfield 158, 3) := by decide +kernel
theorem dX7_readOrder_158 : decode cX7_readOrder 158 = .ok (.aload_n 0, 1) := by decide +kernel
theorem dX7_readOrder_159 : decode cX7_readOrder 159 = .ok (.getfield 158, 3) := by decide +kernel
theorem dX7_readOrder_162 : decode cX7_readOrder 162 = .ok (.aload_n 0, 1) := by decide +kernel
theorem dX7_readOrder_163 : decode cX7_readOrder 163 = .ok (.getfield 155, 3) := by decide +kernel
theorem dX7_readOrder_166 : decode cX7_readOrder 166 = .ok (.if_icmp .ge 17, 3) := by decide +kernel
theorem dX7_readOrder_169 : decode cX7_readOrder 169 = .ok (.aload_n 0, 1) := by decide +kernel
theorem dX7_readOrder_170 : decode cX7_readOrder 170 = .ok (.getfield 22, 3) := by decide +kernel
theorem dX7_readOrder_173 : decode cX7_readOrder 173 = .ok (.aload_n 0, 1) := by decide +kernel
theorem dX7_readOrder_174 : decode cX7_readOrder 174 = .ok (.getfield 158, 3) := by decide +kernel
theorem dX7_readOrder_177 : decode cX7_readOrder 177 = .ok (.iaload, 1) := by decide +kernel
theorem dX7_readOrder_178 : decode cX7_readOrder 178 = .ok (.bipush 59, 2) := by decide +kernel
theorem dX7_readOrder_180 : decode cX7_readOrder 180 = .ok (.if_icmp .eq 5, 3) := by decide +kernel
theorem dX7_readOrder_183 : decode cX7_readOrder 183 = .ok (.iconst 0, 1) := by decide +kernel
theorem dX7_readOrder_184 : decode cX7_readOrder 184 = .ok (.ireturn, 1) := by decide +kernel
theorem dX7_readOrder_185 : decode cX7_readOrder 185 = .ok (.aload_n 0, 1) := by decide +kernel
theorem dX7_readOrder_186 : decode cX7_readOrder 186 = .ok (.dup, 1) := by decide +kernel
theorem dX7_readOrder_187 : decode cX7_readOrder 187 = .ok (.getfield 158, 3) := by decide +kernel
theorem dX7_readOrder_190 : decode cX7_readOrder 190 = .ok (.iconst 1, 1) := by decide +kernel
theorem dX7_readOrder_191 : decode cX7_readOrder 191 = .ok (.iadd, 1) := by decide +kernel
theorem dX7_readOrder_192 : decode cX7_readOrder 192 = .ok (.putfield 158, 3) := by decide +kernel
theorem dX7_readOrder_195 : decode cX7_readOrder 195 = .ok (.iconst 1, 1) := by decide +kernel
theorem dX7_readOrder_196 : decode cX7_readOrder 196 = .ok (.ireturn, 1) := by decide +kernel
set_option maxRecDepth 20000 in
theorem ggX7_readAll_X7_readOrder : GoodIn wsX7_readAll wsX7_readOrder := goodIn_r _ [7, 8, 1, 2, 9, 10, 6, 11, 12, 13, 14, 15, 16, 17, 18, 19, 20, 21, 22, 23, 24, 25, 26, 27, 28] (by decide +kernel) (by decide +kernel)
set_option maxRecDepth 20000 in
theorem gX7_readAll_X7_readOrder : GoodIn wsX7_readAll (wsV RX7 167 RX7 yX7_readOrder wsX7_readOrder) := goodIn_app (goodIn_of _ (by decide +kernel)) ggX7_readAll_X7_readOrder
theorem dX7_readAll_0 : decode cX7_readAll 0 = .ok (.aload_n 0, 1) := by decide +kernel
theorem dX7_readAll_1 : decode cX7_readAll 1 = .ok (.iconst 0, 1) := by decide +kernel
theorem dX7_readAll_2 : decode cX7_readAll 2 = .ok (.putfield 158, 3) := by decide +kernel
theorem dX7_readAll_5 : decode cX7_readAll 5 = .ok (.iconst 1, 1) := by decide +kernel
theorem dX7_readAll_6 : decode cX7_readAll 6 = .ok (.istore_n 1, 1) := by decide +kernel
theorem dX7_readAll_7 : decode cX7_readAll 7 = .ok (.iload_n 1, 1) := by decide +kernel
theorem dX7_readAll_8 : decode cX7_readAll 8 = .ok (.ifCond .eq 22, 3) := by decide +kernel
theorem dX7_readAll_11 : decode cX7_readAll 11 = .ok (.aload_n 0, 1) := by decide +kernel
theorem dX7_readAll_12 : decode cX7_readAll 12 = .ok (.getfield 158, 3) := by decide +kernel
theorem dX7_readAll_15 : decode cX7_readAll 15 = .ok (.aload_n 0, 1) := by decide +kernel
theorem dX7_readAll_16 : decode cX7_readAll 16 = .ok (.getfield 155, 3) := by decide +kernel
theorem dX7_readAll_19 : decode cX7_readAll 19 = .ok (.if_icmp .ge 11, 3) := by decide +kernel
theorem dX7_readAll_22 : decode cX7_readAll 22 = .ok (.aload_n 0, 1) := by decide +kernel
theorem dX7_readAll_23 : decode cX7_readAll 23 = .ok (.invokevirtual 167, 3) := by decide +kernel
theorem dX7_readAll_26 : decode cX7_readAll 26 = .ok (.istore_n 1, 1) := by decide +kernel
theorem dX7_readAll_27 : decode cX7_readAll 27 = .ok (.goto (-20), 3) := by decide +kernel
theorem dX7_readAll_30 : decode cX7_readAll 30 = .ok (.iload_n 1, 1) := by decide +kernel
theorem dX7_readAll_31 : decode cX7_readAll 31 = .ok (.ireturn, 1) := by decide +kernel
set_option maxRecDepth 20000 in
theorem ggX7_does_X7_asks : GoodIn wsX7_does wsX7_asks := goodIn_r _ [6, 7, 8, 9, 5, 10, 11, 12, 13, 14, 15, 16, 17, 18, 19, 20, 21, 22, 23, 24, 25, 26, 27, 93, 94, 95, 96, 97, 98, 99, 100, 101, 102] (by decide +kernel) (by decide +kernel)
set_option maxRecDepth 20000 in
theorem gX7_does_X7_asks : GoodIn wsX7_does (wsV RX7 103 RX7 yX7_asks wsX7_asks) := goodIn_app (goodIn_of _ (by decide +kernel)) ggX7_does_X7_asks
set_option maxRecDepth 20000 in
theorem ggX7_does_X7_grants : GoodIn wsX7_does wsX7_grants := goodIn_r _ [31, 7, 8, 9, 5, 10, 11, 12, 13, 14, 15, 16, 17, 18, 19, 20, 21, 22, 23, 24, 25, 26, 27, 32, 33, 34, 35, 36, 37, 38, 39, 40, 41, 42, 93, 94, 95, 96, 97, 98, 99, 100, 101, 102] (by decide +kernel) (by decide +kernel)
set_option maxRecDepth 20000 in
theorem gX7_does_X7_grants : GoodIn wsX7_does (wsV RX7 106 RX7 yX7_grants wsX7_grants) := goodIn_app (goodIn_of _ (by decide +kernel)) ggX7_does_X7_grants
set_option maxRecDepth 20000 in
theorem ggX7_does_X7_refuses : GoodIn wsX7_does wsX7_refuses := goodIn_r _ [46, 7, 8, 9, 5, 10, 11, 12, 13, 14, 15, 16, 17, 18, 19, 20, 21, 22, 23, 24, 25, 26, 27, 47, 48, 49, 50, 36, 37, 38, 39, 40, 41, 42, 93, 94, 95, 96, 97, 98, 99, 100, 101, 102] (by decide +kernel) (by decide +kernel)
set_option maxRecDepth 20000 in
theorem gX7_does_X7_refuses : GoodIn wsX7_does (wsV RX7 109 RX7 yX7_refuses wsX7_refuses) := goodIn_app (goodIn_of _ (by decide +kernel)) ggX7_does_X7_refuses
set_option maxRecDepth 20000 in
theorem ggX7_does_X7_stops : GoodIn wsX7_does wsX7_stops := goodIn_r _ [54, 7, 8, 9, 5, 10, 11, 12, 13, 14, 15, 16, 17, 18, 19, 20, 21, 22, 23, 24, 25, 26, 27, 55, 56, 57, 58, 59, 60, 61, 93, 94, 95, 96, 97, 98, 99, 100, 101, 102] (by decide +kernel) (by decide +kernel)
set_option maxRecDepth 20000 in
theorem gX7_does_X7_stops : GoodIn wsX7_does (wsV RX7 112 RX7 yX7_stops wsX7_stops) := goodIn_app (goodIn_of _ (by decide +kernel)) ggX7_does_X7_stops
set_option maxRecDepth 20000 in
theorem ggX7_does_X7_turnsOn : GoodIn wsX7_does wsX7_turnsOn := goodIn_r _ [65, 15, 66, 67, 68, 5, 69, 40, 41, 42, 70, 71, 72, 73, 55, 56, 57, 58, 59, 60, 61, 7, 8, 9, 10, 11, 12, 13, 14, 20, 21, 22, 23, 24, 25, 26, 27, 93, 94, 95, 96, 97, 98, 99, 100, 101, 102] (by decide +kernel) (by decide +kernel)
set_option maxRecDepth 20000 in
theorem gX7_does_X7_turnsOn : GoodIn wsX7_does (wsV RX7 121 RX7 yX7_turnsOn wsX7_turnsOn) := goodIn_app (goodIn_of _ (by decide +kernel)) ggX7_does_X7_turnsOn
set_option maxRecDepth 20000 in
theorem ggX7_does_X7_isOn : GoodIn wsX7_does wsX7_isOn := goodIn_r _ [39, 15, 40, 41, 5, 42, 93, 94, 95, 96, 97, 98, 99, 100, 101, 102] (by decide +kernel) (by decide +kernel)
set_option maxRecDepth 20000 in
theorem gX7_does_X7_isOn : GoodIn wsX7_does (wsV RX7 63 RX7 yX7_isOn wsX7_isOn) := goodIn_app (goodIn_of _ (by decide +kernel)) ggX7_does_X7_isOn
set_option maxRecDepth 20000 in
theorem ggX7_does_X7_turnsOff : GoodIn wsX7_does wsX7_turnsOff := goodIn_r _ [77, 15, 40, 41, 5, 42, 7, 8, 9, 10, 11, 12, 13, 14, 20, 21, 22, 23, 24, 25, 26, 27, 66, 67, 68, 69, 70, 71, 72, 73, 55, 56, 57, 58, 59, 60, 61, 93, 94, 95, 96, 97, 98, 99, 100, 101, 102] (by decide +kernel) (by decide +kernel)
set_option maxRecDepth 20000 in
theorem gX7_does_X7_turnsOff : GoodIn wsX7_does (wsV RX7 125 RX7 yX7_turnsOff wsX7_turnsOff) := goodIn_app (goodIn_of _ (by decide +kernel)) ggX7_does_X7_turnsOff
set_option maxRecDepth 20000 in
theorem ggX7_does_X7_delivers : GoodIn wsX7_does wsX7_delivers := goodIn_r _ [81, 15, 82, 83, 84, 5, 85, 86, 87, 88, 89, 90, 91, 92, 11, 12, 13, 14, 7, 8, 9, 10, 24, 25, 26, 27, 20, 21, 22, 23, 32, 33, 34, 35, 36, 37, 38, 39, 40, 41, 42, 16, 17, 18, 19, 47, 48, 49, 50, 55, 56, 57, 58, 59, 60, 61, 66, 67, 68, 69, 93, 94, 95, 96, 97, 98, 99, 100, 101, 102] (by decide +kernel) (by decide +kernel)
set_option maxRecDepth 20000 in
theorem gX7_does_X7_delivers : GoodIn wsX7_does (wsV RX7 128 RX7 yX7_delivers wsX7_delivers) := goodIn_app (goodIn_of _ (by decide +kernel)) ggX7_does_X7_delivers
theorem dX7_does_0 : decode cX7_does 0 = .ok (.aload_n 0, 1) := by decide +kernel
theorem dX7_does_1 : decode cX7_does 1 = .ok (.getfield 22, 3) := by decide +kernel
theorem dX7_does_4 : decode cX7_does 4 = .ok (.iconst 4, 1) := by decide +kernel
theorem dX7_does_5 : decode cX7_does 5 = .ok (.iload_n 1, 1) := by decide +kernel
theorem dX7_does_6 : decode cX7_does 6 = .ok (.imul, 1) := by decide +kernel
theorem dX7_does_7 : decode cX7_does 7 = .ok (.iconst 1, 1) := by decide +kernel
theorem dX7_does_8 : decode cX7_does 8 = .ok (.iadd, 1) := by decide +kernel
theorem dX7_does_9 : decode cX7_does 9 = .ok (.iaload, 1) := by decide +kernel
theorem dX7_does_10 : decode cX7_does 10 = .ok (.bipush 48, 2) := by decide +kernel
theorem dX7_does_12 : decode cX7_does 12 = .ok (.isub, 1) := by decide +kernel
theorem dX7_does_13 : decode cX7_does 13 = .ok (.istore_n 2, 1) := by decide +kernel
theorem dX7_does_14 : decode cX7_does 14 = .ok (.aload_n 0, 1) := by decide +kernel
theorem dX7_does_15 : decode cX7_does 15 = .ok (.getfield 22, 3) := by decide +kernel
theorem dX7_does_18 : decode cX7_does 18 = .ok (.iconst 4, 1) := by decide +kernel
theorem dX7_does_19 : decode cX7_does 19 = .ok (.iload_n 1, 1) := by decide +kernel
theorem dX7_does_20 : decode cX7_does 20 = .ok (.imul, 1) := by decide +kernel
theorem dX7_does_21 : decode cX7_does 21 = .ok (.iconst 2, 1) := by decide +kernel
theorem dX7_does_22 : decode cX7_does 22 = .ok (.iadd, 1) := by decide +kernel
theorem dX7_does_23 : decode cX7_does 23 = .ok (.iaload, 1) := by decide +kernel
theorem dX7_does_24 : decode cX7_does 24 = .ok (.bipush 48, 2) := by decide +kernel
theorem dX7_does_26 : decode cX7_does 26 = .ok (.isub, 1) := by decide +kernel
theorem dX7_does_27 : decode cX7_does 27 = .ok (.istore_n 3, 1) := by decide +kernel
theorem dX7_does_28 : decode cX7_does 28 = .ok (.iconst 0, 1) := by decide +kernel
theorem dX7_does_29 : decode cX7_does 29 = .ok (.istore 4, 2) := by decide +kernel
theorem dX7_does_31 : decode cX7_does 31 = .ok (.aload_n 0, 1) := by decide +kernel
theorem dX7_does_32 : decode cX7_does 32 = .ok (.getfield 22, 3) := by decide +kernel
theorem dX7_does_35 : decode cX7_does 35 = .ok (.iconst 4, 1) := by decide +kernel
theorem dX7_does_36 : decode cX7_does 36 = .ok (.iload_n 1, 1) := by decide +kernel
theorem dX7_does_37 : decode cX7_does 37 = .ok (.imul, 1) := by decide +kernel
theorem dX7_does_38 : decode cX7_does 38 = .ok (.iaload, 1) := by decide +kernel
theorem dX7_does_39 : decode cX7_does 39 = .ok (.tableswitch 168 97 115 #[89, 168, 168, 168, 168, 168, 100, 168, 133, 168, 168, 168, 168, 168, 146, 168, 168, 111, 122], 89) := by decide +kernel
theorem dX7_does_128 : decode cX7_does 128 = .ok (.aload_n 0, 1) := by decide +kernel
theorem dX7_does_129 : decode cX7_does 129 = .ok (.iload_n 2, 1) := by decide +kernel
theorem dX7_does_130 : decode cX7_does 130 = .ok (.iload_n 3, 1) := by decide +kernel
theorem dX7_does_131 : decode cX7_does 131 = .ok (.invokevirtual 103, 3) := by decide +kernel
theorem dX7_does_134 : decode cX7_does 134 = .ok (.istore 4, 2) := by decide +kernel
theorem dX7_does_136 : decode cX7_does 136 = .ok (.goto 83, 3) := by decide +kernel
theorem dX7_does_139 : decode cX7_does 139 = .ok (.aload_n 0, 1) := by decide +kernel
theorem dX7_does_140 : decode cX7_does 140 = .ok (.iload_n 2, 1) := by decide +kernel
theorem dX7_does_141 : decode cX7_does 141 = .ok (.iload_n 3, 1) := by decide +kernel
theorem dX7_does_142 : decode cX7_does 142 = .ok (.invokevirtual 106, 3) := by decide +kernel
theorem dX7_does_145 : decode cX7_does 145 = .ok (.istore 4, 2) := by decide +kernel
theorem dX7_does_147 : decode cX7_does 147 = .ok (.goto 72, 3) := by decide +kernel
theorem dX7_does_150 : decode cX7_does 150 = .ok (.aload_n 0, 1) := by decide +kernel
theorem dX7_does_151 : decode cX7_does 151 = .ok (.iload_n 2, 1) := by decide +kernel
theorem dX7_does_152 : decode cX7_does 152 = .ok (.iload_n 3, 1) := by decide +kernel
theorem dX7_does_153 : decode cX7_does 153 = .ok (.invokevirtual 109, 3) := by decide +kernel
theorem dX7_does_156 : decode cX7_does 156 = .ok (.istore 4, 2) := by decide +kernel
theorem dX7_does_158 : decode cX7_does 158 = .ok (.goto 61, 3) := by decide +kernel
theorem dX7_does_161 : decode cX7_does 161 = .ok (.aload_n 0, 1) := by decide +kernel
theorem dX7_does_162 : decode cX7_does 162 = .ok (.iload_n 2, 1) := by decide +kernel
theorem dX7_does_163 : decode cX7_does 163 = .ok (.iload_n 3, 1) := by decide +kernel
theorem dX7_does_164 : decode cX7_does 164 = .ok (.invokevirtual 112, 3) := by decide +kernel
theorem dX7_does_167 : decode cX7_does 167 = .ok (.istore 4, 2) := by decide +kernel
theorem dX7_does_169 : decode cX7_does 169 = .ok (.goto 50, 3) := by decide +kernel
theorem dX7_does_172 : decode cX7_does 172 = .ok (.aload_n 0, 1) := by decide +kernel
theorem dX7_does_173 : decode cX7_does 173 = .ok (.iload_n 2, 1) := by decide +kernel
theorem dX7_does_174 : decode cX7_does 174 = .ok (.iload_n 3, 1) := by decide +kernel
theorem dX7_does_175 : decode cX7_does 175 = .ok (.iconst 0, 1) := by decide +kernel
theorem dX7_does_176 : decode cX7_does 176 = .ok (.iconst 0, 1) := by decide +kernel
theorem dX7_does_177 : decode cX7_does 177 = .ok (.invokevirtual 121, 3) := by decide +kernel
theorem dX7_does_180 : decode cX7_does 180 = .ok (.istore 4, 2) := by decide +kernel
theorem dX7_does_182 : decode cX7_does 182 = .ok (.goto 37, 3) := by decide +kernel
theorem dX7_does_185 : decode cX7_does 185 = .ok (.aload_n 0, 1) := by decide +kernel
theorem dX7_does_186 : decode cX7_does 186 = .ok (.iload_n 2, 1) := by decide +kernel
theorem dX7_does_187 : decode cX7_does 187 = .ok (.iload_n 3, 1) := by decide +kernel
theorem dX7_does_188 : decode cX7_does 188 = .ok (.invokevirtual 63, 3) := by decide +kernel
theorem dX7_does_191 : decode cX7_does 191 = .ok (.ifCond .ne 5, 3) := by decide +kernel
theorem dX7_does_194 : decode cX7_does 194 = .ok (.iconst 0, 1) := by decide +kernel
theorem dX7_does_195 : decode cX7_does 195 = .ok (.ireturn, 1) := by decide +kernel
theorem dX7_does_196 : decode cX7_does 196 = .ok (.aload_n 0, 1) := by decide +kernel
theorem dX7_does_197 : decode cX7_does 197 = .ok (.iload_n 2, 1) := by decide +kernel
theorem dX7_does_198 : decode cX7_does 198 = .ok (.iload_n 3, 1) := by decide +kernel
theorem dX7_does_199 : decode cX7_does 199 = .ok (.invokevirtual 125, 3) := by decide +kernel
theorem dX7_does_202 : decode cX7_does 202 = .ok (.istore 4, 2) := by decide +kernel
theorem dX7_does_204 : decode cX7_does 204 = .ok (.goto 15, 3) := by decide +kernel
theorem dX7_does_207 : decode cX7_does 207 = .ok (.aload_n 0, 1) := by decide +kernel
theorem dX7_does_208 : decode cX7_does 208 = .ok (.bipush 10, 2) := by decide +kernel
theorem dX7_does_210 : decode cX7_does 210 = .ok (.iload_n 2, 1) := by decide +kernel
theorem dX7_does_211 : decode cX7_does 211 = .ok (.imul, 1) := by decide +kernel
theorem dX7_does_212 : decode cX7_does 212 = .ok (.iload_n 3, 1) := by decide +kernel
theorem dX7_does_213 : decode cX7_does 213 = .ok (.iadd, 1) := by decide +kernel
theorem dX7_does_214 : decode cX7_does 214 = .ok (.invokevirtual 128, 3) := by decide +kernel
theorem dX7_does_217 : decode cX7_does 217 = .ok (.istore 4, 2) := by decide +kernel
theorem dX7_does_219 : decode cX7_does 219 = .ok (.iload 4, 2) := by decide +kernel
theorem dX7_does_221 : decode cX7_does 221 = .ok (.ifCond .lt 7, 3) := by decide +kernel
theorem dX7_does_224 : decode cX7_does 224 = .ok (.iconst 1, 1) := by decide +kernel
theorem dX7_does_225 : decode cX7_does 225 = .ok (.goto 4, 3) := by decide +kernel
theorem dX7_does_228 : decode cX7_does 228 = .ok (.iconst 0, 1) := by decide +kernel
theorem dX7_does_229 : decode cX7_does 229 = .ok (.ireturn, 1) := by decide +kernel
set_option maxRecDepth 20000 in
theorem ggX7_carryOut_X7_readAll : GoodIn wsX7_carryOut wsX7_readAll := goodIn_r _ [11, 2, 5, 12, 13, 14, 10, 15, 16, 17, 18, 19, 20, 21, 22, 23, 24, 25, 26, 129, 130, 131, 132, 133, 134, 135, 136, 137, 138] (by decide +kernel) (by decide +kernel)
set_option maxRecDepth 20000 in
theorem gX7_carryOut_X7_readAll : GoodIn wsX7_carryOut (wsV RX7 171 RX7 yX7_readAll wsX7_readAll) := goodIn_app (goodIn_of _ (by decide +kernel)) ggX7_carryOut_X7_readAll
set_option maxRecDepth 20000 in
theorem ggX7_carryOut_X7_bring : GoodIn wsX7_carryOut wsX7_bring := goodIn_r _ [29] (by decide +kernel) (by decide +kernel)
set_option maxRecDepth 20000 in
theorem gX7_carryOut_X7_bring : GoodIn wsX7_carryOut (va_wsS RX7 32 yX7_bring wsX7_bring) := goodIn_app (goodIn_of _ (by decide +kernel)) ggX7_carryOut_X7_bring
set_option maxRecDepth 20000 in
theorem ggX7_carryOut_X7_does : GoodIn wsX7_carryOut wsX7_does := goodIn_r _ [33, 16, 34, 35, 36, 10, 37, 38, 39, 40, 41, 42, 43, 44, 45, 3, 46, 47, 48, 49, 50, 51, 52, 53, 54, 55, 56, 57, 58, 59, 60, 61, 62, 63, 64, 65, 66, 67, 68, 69, 70, 71, 72, 73, 74, 75, 76, 77, 78, 79, 80, 81, 82, 83, 84, 85, 86, 87, 88, 89, 90, 91, 92, 93, 94, 95, 96, 97, 98, 99, 100, 101, 102, 103, 104, 105, 106, 107, 108, 109, 110, 111, 112, 113, 114, 115, 116, 117, 118, 119, 120, 121, 122, 129, 130, 131, 132, 133, 134, 135, 136, 137, 138] (by decide +kernel) (by decide +kernel)
set_option maxRecDepth 20000 in
theorem gX7_carryOut_X7_does : GoodIn wsX7_carryOut (wsV RX7 174 RX7 yX7_does wsX7_does) := goodIn_app (goodIn_of _ (by decide +kernel)) ggX7_carryOut_X7_does
set_option maxRecDepth 20000 in
theorem ggX7_carryOut_X7_keep : GoodIn wsX7_carryOut wsX7_keep := goodIn_r _ [126, 127, 128, 3, 27, 28, 10, 29, 129, 130, 131, 132, 133, 134, 135, 136, 137, 138] (by decide +kernel) (by decide +kernel)
set_option maxRecDepth 20000 in
theorem gX7_carryOut_X7_keep : GoodIn wsX7_carryOut (wsV RX7 100 RX7 yX7_keep wsX7_keep) := goodIn_app (goodIn_of _ (by decide +kernel)) ggX7_carryOut_X7_keep
theorem dX7_carryOut_0 : decode cX7_carryOut 0 = .ok (.aload_n 0, 1) := by decide +kernel
theorem dX7_carryOut_1 : decode cX7_carryOut 1 = .ok (.iconst 0, 1) := by decide +kernel
theorem dX7_carryOut_2 : decode cX7_carryOut 2 = .ok (.putfield 25, 3) := by decide +kernel
theorem dX7_carryOut_5 : decode cX7_carryOut 5 = .ok (.aload_n 0, 1) := by decide +kernel
theorem dX7_carryOut_6 : decode cX7_carryOut 6 = .ok (.invokevirtual 171, 3) := by decide +kernel
theorem dX7_carryOut_9 : decode cX7_carryOut 9 = .ok (.ifCond .ne 11, 3) := by decide +kernel
theorem dX7_carryOut_12 : decode cX7_carryOut 12 = .ok (.bipush (-10), 2) := by decide +kernel
theorem dX7_carryOut_14 : decode cX7_carryOut 14 = .ok (.aload_n 0, 1) := by decide +kernel
theorem dX7_carryOut_15 : decode cX7_carryOut 15 = .ok (.getfield 158, 3) := by decide +kernel
theorem dX7_carryOut_18 : decode cX7_carryOut 18 = .ok (.isub, 1) := by decide +kernel
theorem dX7_carryOut_19 : decode cX7_carryOut 19 = .ok (.ireturn, 1) := by decide +kernel
theorem dX7_carryOut_20 : decode cX7_carryOut 20 = .ok (.aload_n 0, 1) := by decide +kernel
theorem dX7_carryOut_21 : decode cX7_carryOut 21 = .ok (.getfield 7, 3) := by decide +kernel
theorem dX7_carryOut_24 : decode cX7_carryOut 24 = .ok (.iconst 0, 1) := by decide +kernel
theorem dX7_carryOut_25 : decode cX7_carryOut 25 = .ok (.aload_n 0, 1) := by decide +kernel
theorem dX7_carryOut_26 : decode cX7_carryOut 26 = .ok (.getfield 16, 3) := by decide +kernel
theorem dX7_carryOut_29 : decode cX7_carryOut 29 = .ok (.iconst 0, 1) := by decide +kernel
theorem dX7_carryOut_30 : decode cX7_carryOut 30 = .ok (.invokestatic 32, 3) := by decide +kernel
theorem dX7_carryOut_33 : decode cX7_carryOut 33 = .ok (.aload_n 0, 1) := by decide +kernel
theorem dX7_carryOut_34 : decode cX7_carryOut 34 = .ok (.getfield 155, 3) := by decide +kernel
theorem dX7_carryOut_37 : decode cX7_carryOut 37 = .ok (.iconst 4, 1) := by decide +kernel
theorem dX7_carryOut_38 : decode cX7_carryOut 38 = .ok (.idiv, 1) := by decide +kernel
theorem dX7_carryOut_39 : decode cX7_carryOut 39 = .ok (.istore_n 1, 1) := by decide +kernel
theorem dX7_carryOut_40 : decode cX7_carryOut 40 = .ok (.iconst 0, 1) := by decide +kernel
theorem dX7_carryOut_41 : decode cX7_carryOut 41 = .ok (.istore_n 2, 1) := by decide +kernel
theorem dX7_carryOut_42 : decode cX7_carryOut 42 = .ok (.iload_n 2, 1) := by decide +kernel
theorem dX7_carryOut_43 : decode cX7_carryOut 43 = .ok (.iload_n 1, 1) := by decide +kernel
theorem dX7_carryOut_44 : decode cX7_carryOut 44 = .ok (.if_icmp .ge 36, 3) := by decide +kernel
theorem dX7_carryOut_47 : decode cX7_carryOut 47 = .ok (.aload_n 0, 1) := by decide +kernel
theorem dX7_carryOut_48 : decode cX7_carryOut 48 = .ok (.iload_n 2, 1) := by decide +kernel
theorem dX7_carryOut_49 : decode cX7_carryOut 49 = .ok (.invokevirtual 174, 3) := by decide +kernel
theorem dX7_carryOut_52 : decode cX7_carryOut 52 = .ok (.ifCond .ne 22, 3) := by decide +kernel
theorem dX7_carryOut_55 : decode cX7_carryOut 55 = .ok (.aload_n 0, 1) := by decide +kernel
theorem dX7_carryOut_56 : decode cX7_carryOut 56 = .ok (.getfield 16, 3) := by decide +kernel
theorem dX7_carryOut_59 : decode cX7_carryOut 59 = .ok (.iconst 0, 1) := by decide +kernel
theorem dX7_carryOut_60 : decode cX7_carryOut 60 = .ok (.aload_n 0, 1) := by decide +kernel
theorem dX7_carryOut_61 : decode cX7_carryOut 61 = .ok (.getfield 7, 3) := by decide +kernel
theorem dX7_carryOut_64 : decode cX7_carryOut 64 = .ok (.iconst 0, 1) := by decide +kernel
theorem dX7_carryOut_65 : decode cX7_carryOut 65 = .ok (.invokestatic 32, 3) := by decide +kernel
theorem dX7_carryOut_68 : decode cX7_carryOut 68 = .ok (.sipush (-1000), 3) := by decide +kernel
theorem dX7_carryOut_71 : decode cX7_carryOut 71 = .ok (.iload_n 2, 1) := by decide +kernel
theorem dX7_carryOut_72 : decode cX7_carryOut 72 = .ok (.isub, 1) := by decide +kernel
theorem dX7_carryOut_73 : decode cX7_carryOut 73 = .ok (.ireturn, 1) := by decide +kernel
theorem dX7_carryOut_74 : decode cX7_carryOut 74 = .ok (.iinc 2 1, 3) := by decide +kernel
theorem dX7_carryOut_77 : decode cX7_carryOut 77 = .ok (.goto (-35), 3) := by decide +kernel
theorem dX7_carryOut_80 : decode cX7_carryOut 80 = .ok (.aload_n 0, 1) := by decide +kernel
theorem dX7_carryOut_81 : decode cX7_carryOut 81 = .ok (.getfield 7, 3) := by decide +kernel
theorem dX7_carryOut_84 : decode cX7_carryOut 84 = .ok (.iconst 0, 1) := by decide +kernel
theorem dX7_carryOut_85 : decode cX7_carryOut 85 = .ok (.aload_n 0, 1) := by decide +kernel
theorem dX7_carryOut_86 : decode cX7_carryOut 86 = .ok (.getfield 13, 3) := by decide +kernel
theorem dX7_carryOut_89 : decode cX7_carryOut 89 = .ok (.iconst 0, 1) := by decide +kernel
theorem dX7_carryOut_90 : decode cX7_carryOut 90 = .ok (.invokestatic 32, 3) := by decide +kernel
theorem dX7_carryOut_93 : decode cX7_carryOut 93 = .ok (.aload_n 0, 1) := by decide +kernel
theorem dX7_carryOut_94 : decode cX7_carryOut 94 = .ok (.getfield 16, 3) := by decide +kernel
theorem dX7_carryOut_97 : decode cX7_carryOut 97 = .ok (.iconst 0, 1) := by decide +kernel
theorem dX7_carryOut_98 : decode cX7_carryOut 98 = .ok (.aload_n 0, 1) := by decide +kernel
theorem dX7_carryOut_99 : decode cX7_carryOut 99 = .ok (.getfield 7, 3) := by decide +kernel
theorem dX7_carryOut_102 : decode cX7_carryOut 102 = .ok (.iconst 0, 1) := by decide +kernel
theorem dX7_carryOut_103 : decode cX7_carryOut 103 = .ok (.invokestatic 32, 3) := by decide +kernel
theorem dX7_carryOut_106 : decode cX7_carryOut 106 = .ok (.aload_n 0, 1) := by decide +kernel
theorem dX7_carryOut_107 : decode cX7_carryOut 107 = .ok (.invokevirtual 100, 3) := by decide +kernel
theorem dX7_carryOut_110 : decode cX7_carryOut 110 = .ok (.aload_n 0, 1) := by decide +kernel
theorem dX7_carryOut_111 : decode cX7_carryOut 111 = .ok (.getfield 13, 3) := by decide +kernel
theorem dX7_carryOut_114 : decode cX7_carryOut 114 = .ok (.iconst 0, 1) := by decide +kernel
theorem dX7_carryOut_115 : decode cX7_carryOut 115 = .ok (.aload_n 0, 1) := by decide +kernel
theorem dX7_carryOut_116 : decode cX7_carryOut 116 = .ok (.getfield 7, 3) := by decide +kernel
theorem dX7_carryOut_119 : decode cX7_carryOut 119 = .ok (.iconst 0, 1) := by decide +kernel
theorem dX7_carryOut_120 : decode cX7_carryOut 120 = .ok (.invokestatic 32, 3) := by decide +kernel
theorem dX7_carryOut_123 : decode cX7_carryOut 123 = .ok (.iload_n 1, 1) := by decide +kernel
theorem dX7_carryOut_124 : decode cX7_carryOut 124 = .ok (.ireturn, 1) := by decide +kernel
set_option maxRecDepth 20000 in
theorem ggX7_undo_X7_bring : GoodIn wsX7_undo wsX7_bring := goodIn_r _ [8] (by decide +kernel) (by decide +kernel)
set_option maxRecDepth 20000 in
theorem gX7_undo_X7_bring : GoodIn wsX7_undo (va_wsS RX7 32 yX7_bring wsX7_bring) := goodIn_app (goodIn_of _ (by decide +kernel)) ggX7_undo_X7_bring
theorem dX7_undo_0 : decode cX7_undo 0 = .ok (.aload_n 0, 1) := by decide +kernel
theorem dX7_undo_1 : decode cX7_undo 1 = .ok (.aload_n 0, 1) := by decide +kernel
theorem dX7_undo_2 : decode cX7_undo 2 = .ok (.getfield 29, 3) := by decide +kernel
theorem dX7_undo_5 : decode cX7_undo 5 = .ok (.ifCond .ne 7, 3) := by decide +kernel
theorem dX7_undo_8 : decode cX7_undo 8 = .ok (.iconst 1, 1) := by decide +kernel
theorem dX7_undo_9 : decode cX7_undo 9 = .ok (.goto 4, 3) := by decide +kernel
theorem dX7_undo_12 : decode cX7_undo 12 = .ok (.iconst 0, 1) := by decide +kernel
theorem dX7_undo_13 : decode cX7_undo 13 = .ok (.putfield 25, 3) := by decide +kernel
theorem dX7_undo_16 : decode cX7_undo 16 = .ok (.aload_n 0, 1) := by decide +kernel
theorem dX7_undo_17 : decode cX7_undo 17 = .ok (.getfield 25, 3) := by decide +kernel
theorem dX7_undo_20 : decode cX7_undo 20 = .ok (.ifCond .eq 5, 3) := by decide +kernel
theorem dX7_undo_23 : decode cX7_undo 23 = .ok (.iconst 0, 1) := by decide +kernel
theorem dX7_undo_24 : decode cX7_undo 24 = .ok (.ireturn, 1) := by decide +kernel
theorem dX7_undo_25 : decode cX7_undo 25 = .ok (.aload_n 0, 1) := by decide +kernel
theorem dX7_undo_26 : decode cX7_undo 26 = .ok (.dup, 1) := by decide +kernel
theorem dX7_undo_27 : decode cX7_undo 27 = .ok (.getfield 29, 3) := by decide +kernel
theorem dX7_undo_30 : decode cX7_undo 30 = .ok (.iconst 1, 1) := by decide +kernel
theorem dX7_undo_31 : decode cX7_undo 31 = .ok (.isub, 1) := by decide +kernel
theorem dX7_undo_32 : decode cX7_undo 32 = .ok (.putfield 29, 3) := by decide +kernel
theorem dX7_undo_35 : decode cX7_undo 35 = .ok (.aload_n 0, 1) := by decide +kernel
theorem dX7_undo_36 : decode cX7_undo 36 = .ok (.getfield 19, 3) := by decide +kernel
theorem dX7_undo_39 : decode cX7_undo 39 = .ok (.sipush 581, 3) := by decide +kernel
theorem dX7_undo_42 : decode cX7_undo 42 = .ok (.aload_n 0, 1) := by decide +kernel
theorem dX7_undo_43 : decode cX7_undo 43 = .ok (.getfield 29, 3) := by decide +kernel
theorem dX7_undo_46 : decode cX7_undo 46 = .ok (.imul, 1) := by decide +kernel
theorem dX7_undo_47 : decode cX7_undo 47 = .ok (.aload_n 0, 1) := by decide +kernel
theorem dX7_undo_48 : decode cX7_undo 48 = .ok (.getfield 7, 3) := by decide +kernel
theorem dX7_undo_51 : decode cX7_undo 51 = .ok (.iconst 0, 1) := by decide +kernel
theorem dX7_undo_52 : decode cX7_undo 52 = .ok (.invokestatic 32, 3) := by decide +kernel
theorem dX7_undo_55 : decode cX7_undo 55 = .ok (.aload_n 0, 1) := by decide +kernel
theorem dX7_undo_56 : decode cX7_undo 56 = .ok (.getfield 29, 3) := by decide +kernel
theorem dX7_undo_59 : decode cX7_undo 59 = .ok (.ireturn, 1) := by decide +kernel
theorem dX7_mix_0 : decode cX7_mix 0 = .ok (.aload_n 0, 1) := by decide +kernel
theorem dX7_mix_1 : decode cX7_mix 1 = .ok (.ldc2_w 177, 3) := by decide +kernel
theorem dX7_mix_4 : decode cX7_mix 4 = .ok (.aload_n 0, 1) := by decide +kernel
theorem dX7_mix_5 : decode cX7_mix 5 = .ok (.getfield 179, 3) := by decide +kernel
theorem dX7_mix_8 : decode cX7_mix 8 = .ok (.lmul, 1) := by decide +kernel
theorem dX7_mix_9 : decode cX7_mix 9 = .ok (.lload_n 1, 1) := by decide +kernel
theorem dX7_mix_10 : decode cX7_mix 10 = .ok (.ladd, 1) := by decide +kernel
theorem dX7_mix_11 : decode cX7_mix 11 = .ok (.putfield 179, 3) := by decide +kernel
theorem dX7_mix_14 : decode cX7_mix 14 = .ok (.return_, 1) := by decide +kernel
set_option maxRecDepth 20000 in
theorem ggX7_mixUser_X7_mix : GoodIn wsX7_mixUser wsX7_mix := goodIn_r _ [6, 7, 8, 19, 20, 21, 22, 23, 24, 25, 26, 27, 28] (by decide +kernel) (by decide +kernel)
set_option maxRecDepth 20000 in
theorem gX7_mixUser_X7_mix : GoodIn wsX7_mixUser (wsV RX7 183 RX7 yX7_mix wsX7_mix) := goodIn_app (goodIn_of _ (by decide +kernel)) ggX7_mixUser_X7_mix
set_option maxRecDepth 20000 in
theorem ggX7_mixUser_X7_seatCell : GoodIn wsX7_mixUser wsX7_seatCell := goodIn_r _ [11] (by decide +kernel) (by decide +kernel)
set_option maxRecDepth 20000 in
theorem gX7_mixUser_X7_seatCell : GoodIn wsX7_mixUser (va_wsS RX7 44 yX7_seatCell wsX7_seatCell) := goodIn_app (goodIn_of _ (by decide +kernel)) ggX7_mixUser_X7_seatCell
set_option maxRecDepth 20000 in
theorem ggX7_mixUser_X7_state : GoodIn wsX7_mixUser wsX7_state := goodIn_r _ [15, 1, 19, 20, 21, 22, 23, 24, 25, 26, 27, 28] (by decide +kernel) (by decide +kernel)
set_option maxRecDepth 20000 in
theorem gX7_mixUser_X7_state : GoodIn wsX7_mixUser (wsV RX7 48 RX7 yX7_state wsX7_state) := goodIn_app (goodIn_of _ (by decide +kernel)) ggX7_mixUser_X7_state
set_option maxRecDepth 20000 in
theorem ggX7_mixUser_X7_viewCell : GoodIn wsX7_mixUser wsX7_viewCell := goodIn_r _ [18] (by decide +kernel) (by decide +kernel)
set_option maxRecDepth 20000 in
theorem gX7_mixUser_X7_viewCell : GoodIn wsX7_mixUser (va_wsS RX7 51 yX7_viewCell wsX7_viewCell) := goodIn_app (goodIn_of _ (by decide +kernel)) ggX7_mixUser_X7_viewCell
theorem dX7_mixUser_0 : decode cX7_mixUser 0 = .ok (.aload_n 0, 1) := by decide +kernel
theorem dX7_mixUser_1 : decode cX7_mixUser 1 = .ok (.aload_n 0, 1) := by decide +kernel
theorem dX7_mixUser_2 : decode cX7_mixUser 2 = .ok (.getfield 7, 3) := by decide +kernel
theorem dX7_mixUser_5 : decode cX7_mixUser 5 = .ok (.bipush 126, 2) := by decide +kernel
theorem dX7_mixUser_7 : decode cX7_mixUser 7 = .ok (.iload_n 1, 1) := by decide +kernel
theorem dX7_mixUser_8 : decode cX7_mixUser 8 = .ok (.iadd, 1) := by decide +kernel
theorem dX7_mixUser_9 : decode cX7_mixUser 9 = .ok (.iaload, 1) := by decide +kernel
theorem dX7_mixUser_10 : decode cX7_mixUser 10 = .ok (.i2l, 1) := by decide +kernel
theorem dX7_mixUser_11 : decode cX7_mixUser 11 = .ok (.invokevirtual 183, 3) := by decide +kernel
theorem dX7_mixUser_14 : decode cX7_mixUser 14 = .ok (.iconst 0, 1) := by decide +kernel
theorem dX7_mixUser_15 : decode cX7_mixUser 15 = .ok (.istore_n 2, 1) := by decide +kernel
theorem dX7_mixUser_16 : decode cX7_mixUser 16 = .ok (.iload_n 2, 1) := by decide +kernel
theorem dX7_mixUser_17 : decode cX7_mixUser 17 = .ok (.bipush 9, 2) := by decide +kernel
theorem dX7_mixUser_19 : decode cX7_mixUser 19 = .ok (.if_icmp .ge 26, 3) := by decide +kernel
theorem dX7_mixUser_22 : decode cX7_mixUser 22 = .ok (.aload_n 0, 1) := by decide +kernel
theorem dX7_mixUser_23 : decode cX7_mixUser 23 = .ok (.aload_n 0, 1) := by decide +kernel
theorem dX7_mixUser_24 : decode cX7_mixUser 24 = .ok (.getfield 7, 3) := by decide +kernel
theorem dX7_mixUser_27 : decode cX7_mixUser 27 = .ok (.iload_n 1, 1) := by decide +kernel
theorem dX7_mixUser_28 : decode cX7_mixUser 28 = .ok (.iconst 0, 1) := by decide +kernel
theorem dX7_mixUser_29 : decode cX7_mixUser 29 = .ok (.invokestatic 44, 3) := by decide +kernel
theorem dX7_mixUser_32 : decode cX7_mixUser 32 = .ok (.iload_n 2, 1) := by decide +kernel
theorem dX7_mixUser_33 : decode cX7_mixUser 33 = .ok (.iadd, 1) := by decide +kernel
theorem dX7_mixUser_34 : decode cX7_mixUser 34 = .ok (.iaload, 1) := by decide +kernel
theorem dX7_mixUser_35 : decode cX7_mixUser 35 = .ok (.i2l, 1) := by decide +kernel
theorem dX7_mixUser_36 : decode cX7_mixUser 36 = .ok (.invokevirtual 183, 3) := by decide +kernel
theorem dX7_mixUser_39 : decode cX7_mixUser 39 = .ok (.iinc 2 1, 3) := by decide +kernel
theorem dX7_mixUser_42 : decode cX7_mixUser 42 = .ok (.goto (-26), 3) := by decide +kernel
theorem dX7_mixUser_45 : decode cX7_mixUser 45 = .ok (.iconst 0, 1) := by decide +kernel
theorem dX7_mixUser_46 : decode cX7_mixUser 46 = .ok (.istore_n 2, 1) := by decide +kernel
theorem dX7_mixUser_47 : decode cX7_mixUser 47 = .ok (.iload_n 2, 1) := by decide +kernel
theorem dX7_mixUser_48 : decode cX7_mixUser 48 = .ok (.bipush 6, 2) := by decide +kernel
theorem dX7_mixUser_50 : decode cX7_mixUser 50 = .ok (.if_icmp .ge 93, 3) := by decide +kernel
theorem dX7_mixUser_53 : decode cX7_mixUser 53 = .ok (.iload_n 2, 1) := by decide +kernel
theorem dX7_mixUser_54 : decode cX7_mixUser 54 = .ok (.iload_n 1, 1) := by decide +kernel
theorem dX7_mixUser_55 : decode cX7_mixUser 55 = .ok (.if_icmp .eq 82, 3) := by decide +kernel
theorem dX7_mixUser_58 : decode cX7_mixUser 58 = .ok (.aload_n 0, 1) := by decide +kernel
theorem dX7_mixUser_59 : decode cX7_mixUser 59 = .ok (.aload_n 0, 1) := by decide +kernel
theorem dX7_mixUser_60 : decode cX7_mixUser 60 = .ok (.iload_n 1, 1) := by decide +kernel
theorem dX7_mixUser_61 : decode cX7_mixUser 61 = .ok (.iload_n 2, 1) := by decide +kernel
theorem dX7_mixUser_62 : decode cX7_mixUser 62 = .ok (.invokevirtual 48, 3) := by decide +kernel
theorem dX7_mixUser_65 : decode cX7_mixUser 65 = .ok (.i2l, 1) := by decide +kernel
theorem dX7_mixUser_66 : decode cX7_mixUser 66 = .ok (.invokevirtual 183, 3) := by decide +kernel
theorem dX7_mixUser_69 : decode cX7_mixUser 69 = .ok (.aload_n 0, 1) := by decide +kernel
theorem dX7_mixUser_70 : decode cX7_mixUser 70 = .ok (.aload_n 0, 1) := by decide +kernel
theorem dX7_mixUser_71 : decode cX7_mixUser 71 = .ok (.getfield 7, 3) := by decide +kernel
theorem dX7_mixUser_74 : decode cX7_mixUser 74 = .ok (.bipush 90, 2) := by decide +kernel
theorem dX7_mixUser_76 : decode cX7_mixUser 76 = .ok (.bipush 6, 2) := by decide +kernel
theorem dX7_mixUser_78 : decode cX7_mixUser 78 = .ok (.iload_n 1, 1) := by decide +kernel
theorem dX7_mixUser_79 : decode cX7_mixUser 79 = .ok (.imul, 1) := by decide +kernel
theorem dX7_mixUser_80 : decode cX7_mixUser 80 = .ok (.iadd, 1) := by decide +kernel
theorem dX7_mixUser_81 : decode cX7_mixUser 81 = .ok (.iload_n 2, 1) := by decide +kernel
theorem dX7_mixUser_82 : decode cX7_mixUser 82 = .ok (.iadd, 1) := by decide +kernel
theorem dX7_mixUser_83 : decode cX7_mixUser 83 = .ok (.iaload, 1) := by decide +kernel
theorem dX7_mixUser_84 : decode cX7_mixUser 84 = .ok (.i2l, 1) := by decide +kernel
theorem dX7_mixUser_85 : decode cX7_mixUser 85 = .ok (.invokevirtual 183, 3) := by decide +kernel
theorem dX7_mixUser_88 : decode cX7_mixUser 88 = .ok (.aload_n 0, 1) := by decide +kernel
theorem dX7_mixUser_89 : decode cX7_mixUser 89 = .ok (.aload_n 0, 1) := by decide +kernel
theorem dX7_mixUser_90 : decode cX7_mixUser 90 = .ok (.getfield 7, 3) := by decide +kernel
theorem dX7_mixUser_93 : decode cX7_mixUser 93 = .ok (.sipush 240, 3) := by decide +kernel
theorem dX7_mixUser_96 : decode cX7_mixUser 96 = .ok (.bipush 6, 2) := by decide +kernel
theorem dX7_mixUser_98 : decode cX7_mixUser 98 = .ok (.iload_n 1, 1) := by decide +kernel
theorem dX7_mixUser_99 : decode cX7_mixUser 99 = .ok (.imul, 1) := by decide +kernel
theorem dX7_mixUser_100 : decode cX7_mixUser 100 = .ok (.iadd, 1) := by decide +kernel
theorem dX7_mixUser_101 : decode cX7_mixUser 101 = .ok (.iload_n 2, 1) := by decide +kernel
theorem dX7_mixUser_102 : decode cX7_mixUser 102 = .ok (.iadd, 1) := by decide +kernel
theorem dX7_mixUser_103 : decode cX7_mixUser 103 = .ok (.iaload, 1) := by decide +kernel
theorem dX7_mixUser_104 : decode cX7_mixUser 104 = .ok (.i2l, 1) := by decide +kernel
theorem dX7_mixUser_105 : decode cX7_mixUser 105 = .ok (.invokevirtual 183, 3) := by decide +kernel
theorem dX7_mixUser_108 : decode cX7_mixUser 108 = .ok (.iconst 0, 1) := by decide +kernel
theorem dX7_mixUser_109 : decode cX7_mixUser 109 = .ok (.istore_n 3, 1) := by decide +kernel
theorem dX7_mixUser_110 : decode cX7_mixUser 110 = .ok (.iload_n 3, 1) := by decide +kernel
theorem dX7_mixUser_111 : decode cX7_mixUser 111 = .ok (.iconst 3, 1) := by decide +kernel
theorem dX7_mixUser_112 : decode cX7_mixUser 112 = .ok (.if_icmp .ge 25, 3) := by decide +kernel
theorem dX7_mixUser_115 : decode cX7_mixUser 115 = .ok (.aload_n 0, 1) := by decide +kernel
theorem dX7_mixUser_116 : decode cX7_mixUser 116 = .ok (.aload_n 0, 1) := by decide +kernel
theorem dX7_mixUser_117 : decode cX7_mixUser 117 = .ok (.getfield 7, 3) := by decide +kernel
theorem dX7_mixUser_120 : decode cX7_mixUser 120 = .ok (.iload_n 1, 1) := by decide +kernel
theorem dX7_mixUser_121 : decode cX7_mixUser 121 = .ok (.iload_n 2, 1) := by decide +kernel
theorem dX7_mixUser_122 : decode cX7_mixUser 122 = .ok (.iload_n 3, 1) := by decide +kernel
theorem dX7_mixUser_123 : decode cX7_mixUser 123 = .ok (.invokestatic 51, 3) := by decide +kernel
theorem dX7_mixUser_126 : decode cX7_mixUser 126 = .ok (.iaload, 1) := by decide +kernel
theorem dX7_mixUser_127 : decode cX7_mixUser 127 = .ok (.i2l, 1) := by decide +kernel
theorem dX7_mixUser_128 : decode cX7_mixUser 128 = .ok (.invokevirtual 183, 3) := by decide +kernel
theorem dX7_mixUser_131 : decode cX7_mixUser 131 = .ok (.iinc 3 1, 3) := by decide +kernel
theorem dX7_mixUser_134 : decode cX7_mixUser 134 = .ok (.goto (-24), 3) := by decide +kernel
theorem dX7_mixUser_137 : decode cX7_mixUser 137 = .ok (.iinc 2 1, 3) := by decide +kernel
theorem dX7_mixUser_140 : decode cX7_mixUser 140 = .ok (.goto (-93), 3) := by decide +kernel
theorem dX7_mixUser_143 : decode cX7_mixUser 143 = .ok (.return_, 1) := by decide +kernel
set_option maxRecDepth 20000 in
theorem ggX7_digest_X7_mix : GoodIn wsX7_digest wsX7_mix := goodIn_r _ [11, 12, 3, 38, 39, 40, 41, 42, 43, 44, 45, 46, 47] (by decide +kernel) (by decide +kernel)
set_option maxRecDepth 20000 in
theorem gX7_digest_X7_mix : GoodIn wsX7_digest (wsV RX7 183 RX7 yX7_mix wsX7_mix) := goodIn_app (goodIn_of _ (by decide +kernel)) ggX7_digest_X7_mix
set_option maxRecDepth 20000 in
theorem ggX7_digest_X7_mixUser : GoodIn wsX7_digest wsX7_mixUser := goodIn_r _ [16, 5, 7, 8, 9, 10, 11, 12, 3, 17, 18, 19, 20, 21, 22, 23, 24, 25, 26, 38, 39, 40, 41, 42, 43, 44, 45, 46, 47] (by decide +kernel) (by decide +kernel)
set_option maxRecDepth 20000 in
theorem gX7_digest_X7_mixUser : GoodIn wsX7_digest (wsV RX7 189 RX7 yX7_mixUser wsX7_mixUser) := goodIn_app (goodIn_of _ (by decide +kernel)) ggX7_digest_X7_mixUser
set_option maxRecDepth 20000 in
theorem ggX7_digest_X7_ofMessage : GoodIn wsX7_digest wsX7_ofMessage := goodIn_r _ [30, 31, 32, 33, 10, 34, 5, 35, 36, 37, 38, 39, 40, 41, 42, 43, 44, 45, 46, 47] (by decide +kernel) (by decide +kernel)
set_option maxRecDepth 20000 in
theorem gX7_digest_X7_ofMessage : GoodIn wsX7_digest (wsV RX7 137 RX7 yX7_ofMessage wsX7_ofMessage) := goodIn_app (goodIn_of _ (by decide +kernel)) ggX7_digest_X7_ofMessage
theorem dX7_digest_0 : decode cX7_digest 0 = .ok (.aload_n 0, 1) := by decide +kernel
theorem dX7_digest_1 : decode cX7_digest 1 = .ok (.iconst 0, 1) := by decide +kernel
theorem dX7_digest_2 : decode cX7_digest 2 = .ok (.putfield 25, 3) := by decide +kernel
theorem dX7_digest_5 : decode cX7_digest 5 = .ok (.aload_n 0, 1) := by decide +kernel
theorem dX7_digest_6 : decode cX7_digest 6 = .ok (.ldc2_w 187, 3) := by decide +kernel
theorem dX7_digest_9 : decode cX7_digest 9 = .ok (.putfield 179, 3) := by decide +kernel
theorem dX7_digest_12 : decode cX7_digest 12 = .ok (.aload_n 0, 1) := by decide +kernel
theorem dX7_digest_13 : decode cX7_digest 13 = .ok (.aload_n 0, 1) := by decide +kernel
theorem dX7_digest_14 : decode cX7_digest 14 = .ok (.getfield 155, 3) := by decide +kernel
theorem dX7_digest_17 : decode cX7_digest 17 = .ok (.i2l, 1) := by decide +kernel
theorem dX7_digest_18 : decode cX7_digest 18 = .ok (.invokevirtual 183, 3) := by decide +kernel
theorem dX7_digest_21 : decode cX7_digest 21 = .ok (.iconst 0, 1) := by decide +kernel
theorem dX7_digest_22 : decode cX7_digest 22 = .ok (.istore_n 1, 1) := by decide +kernel
theorem dX7_digest_23 : decode cX7_digest 23 = .ok (.iload_n 1, 1) := by decide +kernel
theorem dX7_digest_24 : decode cX7_digest 24 = .ok (.bipush 6, 2) := by decide +kernel
theorem dX7_digest_26 : decode cX7_digest 26 = .ok (.if_icmp .ge 14, 3) := by decide +kernel
theorem dX7_digest_29 : decode cX7_digest 29 = .ok (.aload_n 0, 1) := by decide +kernel
theorem dX7_digest_30 : decode cX7_digest 30 = .ok (.iload_n 1, 1) := by decide +kernel
theorem dX7_digest_31 : decode cX7_digest 31 = .ok (.invokevirtual 189, 3) := by decide +kernel
theorem dX7_digest_34 : decode cX7_digest 34 = .ok (.iinc 1 1, 3) := by decide +kernel
theorem dX7_digest_37 : decode cX7_digest 37 = .ok (.goto (-14), 3) := by decide +kernel
theorem dX7_digest_40 : decode cX7_digest 40 = .ok (.iconst 0, 1) := by decide +kernel
theorem dX7_digest_41 : decode cX7_digest 41 = .ok (.istore_n 1, 1) := by decide +kernel
theorem dX7_digest_42 : decode cX7_digest 42 = .ok (.iload_n 1, 1) := by decide +kernel
theorem dX7_digest_43 : decode cX7_digest 43 = .ok (.iconst 3, 1) := by decide +kernel
theorem dX7_digest_44 : decode cX7_digest 44 = .ok (.if_icmp .ge 24, 3) := by decide +kernel
theorem dX7_digest_47 : decode cX7_digest 47 = .ok (.aload_n 0, 1) := by decide +kernel
theorem dX7_digest_48 : decode cX7_digest 48 = .ok (.aload_n 0, 1) := by decide +kernel
theorem dX7_digest_49 : decode cX7_digest 49 = .ok (.getfield 7, 3) := by decide +kernel
theorem dX7_digest_52 : decode cX7_digest 52 = .ok (.sipush 578, 3) := by decide +kernel
theorem dX7_digest_55 : decode cX7_digest 55 = .ok (.iload_n 1, 1) := by decide +kernel
theorem dX7_digest_56 : decode cX7_digest 56 = .ok (.iadd, 1) := by decide +kernel
theorem dX7_digest_57 : decode cX7_digest 57 = .ok (.iaload, 1) := by decide +kernel
theorem dX7_digest_58 : decode cX7_digest 58 = .ok (.i2l, 1) := by decide +kernel
theorem dX7_digest_59 : decode cX7_digest 59 = .ok (.invokevirtual 183, 3) := by decide +kernel
theorem dX7_digest_62 : decode cX7_digest 62 = .ok (.iinc 1 1, 3) := by decide +kernel
theorem dX7_digest_65 : decode cX7_digest 65 = .ok (.goto (-23), 3) := by decide +kernel
theorem dX7_digest_68 : decode cX7_digest 68 = .ok (.aload_n 0, 1) := by decide +kernel
theorem dX7_digest_69 : decode cX7_digest 69 = .ok (.aload_n 0, 1) := by decide +kernel
theorem dX7_digest_70 : decode cX7_digest 70 = .ok (.getfield 7, 3) := by decide +kernel
theorem dX7_digest_73 : decode cX7_digest 73 = .ok (.sipush 577, 3) := by decide +kernel
theorem dX7_digest_76 : decode cX7_digest 76 = .ok (.iaload, 1) := by decide +kernel
theorem dX7_digest_77 : decode cX7_digest 77 = .ok (.i2l, 1) := by decide +kernel
theorem dX7_digest_78 : decode cX7_digest 78 = .ok (.invokevirtual 183, 3) := by decide +kernel
theorem dX7_digest_81 : decode cX7_digest 81 = .ok (.iconst 0, 1) := by decide +kernel
theorem dX7_digest_82 : decode cX7_digest 82 = .ok (.istore_n 1, 1) := by decide +kernel
theorem dX7_digest_83 : decode cX7_digest 83 = .ok (.iload_n 1, 1) := by decide +kernel
theorem dX7_digest_84 : decode cX7_digest 84 = .ok (.aload_n 0, 1) := by decide +kernel
theorem dX7_digest_85 : decode cX7_digest 85 = .ok (.getfield 7, 3) := by decide +kernel
theorem dX7_digest_88 : decode cX7_digest 88 = .ok (.sipush 577, 3) := by decide +kernel
theorem dX7_digest_91 : decode cX7_digest 91 = .ok (.iaload, 1) := by decide +kernel
theorem dX7_digest_92 : decode cX7_digest 92 = .ok (.if_icmp .ge 33, 3) := by decide +kernel
theorem dX7_digest_95 : decode cX7_digest 95 = .ok (.iconst 0, 1) := by decide +kernel
theorem dX7_digest_96 : decode cX7_digest 96 = .ok (.istore_n 2, 1) := by decide +kernel
theorem dX7_digest_97 : decode cX7_digest 97 = .ok (.iload_n 2, 1) := by decide +kernel
theorem dX7_digest_98 : decode cX7_digest 98 = .ok (.iconst 5, 1) := by decide +kernel
theorem dX7_digest_99 : decode cX7_digest 99 = .ok (.if_icmp .ge 20, 3) := by decide +kernel
theorem dX7_digest_102 : decode cX7_digest 102 = .ok (.aload_n 0, 1) := by decide +kernel
theorem dX7_digest_103 : decode cX7_digest 103 = .ok (.aload_n 0, 1) := by decide +kernel
theorem dX7_digest_104 : decode cX7_digest 104 = .ok (.iload_n 1, 1) := by decide +kernel
theorem dX7_digest_105 : decode cX7_digest 105 = .ok (.iload_n 2, 1) := by decide +kernel
theorem dX7_digest_106 : decode cX7_digest 106 = .ok (.invokevirtual 137, 3) := by decide +kernel
theorem dX7_digest_109 : decode cX7_digest 109 = .ok (.i2l, 1) := by decide +kernel
theorem dX7_digest_110 : decode cX7_digest 110 = .ok (.invokevirtual 183, 3) := by decide +kernel
theorem dX7_digest_113 : decode cX7_digest 113 = .ok (.iinc 2 1, 3) := by decide +kernel
theorem dX7_digest_116 : decode cX7_digest 116 = .ok (.goto (-19), 3) := by decide +kernel
theorem dX7_digest_119 : decode cX7_digest 119 = .ok (.iinc 1 1, 3) := by decide +kernel
theorem dX7_digest_122 : decode cX7_digest 122 = .ok (.goto (-39), 3) := by decide +kernel
theorem dX7_digest_125 : decode cX7_digest 125 = .ok (.aload_n 0, 1) := by decide +kernel
theorem dX7_digest_126 : decode cX7_digest 126 = .ok (.aload_n 0, 1) := by decide +kernel
theorem dX7_digest_127 : decode cX7_digest 127 = .ok (.getfield 29, 3) := by decide +kernel
theorem dX7_digest_130 : decode cX7_digest 130 = .ok (.i2l, 1) := by decide +kernel
theorem dX7_digest_131 : decode cX7_digest 131 = .ok (.invokevirtual 183, 3) := by decide +kernel
theorem dX7_digest_134 : decode cX7_digest 134 = .ok (.aload_n 0, 1) := by decide +kernel
theorem dX7_digest_135 : decode cX7_digest 135 = .ok (.getfield 179, 3) := by decide +kernel
theorem dX7_digest_138 : decode cX7_digest 138 = .ok (.lreturn, 1) := by decide +kernel
theorem dJ9_floorMod_7cf53_0 : decode cJ9_floorMod_7cf53 0 = .ok (.iload_n 0, 1) := by decide +kernel
theorem dJ9_floorMod_7cf53_1 : decode cJ9_floorMod_7cf53 1 = .ok (.iload_n 1, 1) := by decide +kernel
theorem dJ9_floorMod_7cf53_2 : decode cJ9_floorMod_7cf53 2 = .ok (.irem, 1) := by decide +kernel
theorem dJ9_floorMod_7cf53_3 : decode cJ9_floorMod_7cf53 3 = .ok (.istore_n 2, 1) := by decide +kernel
theorem dJ9_floorMod_7cf53_4 : decode cJ9_floorMod_7cf53 4 = .ok (.iload_n 0, 1) := by decide +kernel
theorem dJ9_floorMod_7cf53_5 : decode cJ9_floorMod_7cf53 5 = .ok (.iload_n 1, 1) := by decide +kernel
theorem dJ9_floorMod_7cf53_6 : decode cJ9_floorMod_7cf53 6 = .ok (.ixor, 1) := by decide +kernel
theorem dJ9_floorMod_7cf53_7 : decode cJ9_floorMod_7cf53 7 = .ok (.ifCond .ge 11, 3) := by decide +kernel
theorem dJ9_floorMod_7cf53_10 : decode cJ9_floorMod_7cf53 10 = .ok (.iload_n 2, 1) := by decide +kernel
theorem dJ9_floorMod_7cf53_11 : decode cJ9_floorMod_7cf53 11 = .ok (.ifCond .eq 7, 3) := by decide +kernel
theorem dJ9_floorMod_7cf53_14 : decode cJ9_floorMod_7cf53 14 = .ok (.iload_n 2, 1) := by decide +kernel
theorem dJ9_floorMod_7cf53_15 : decode cJ9_floorMod_7cf53 15 = .ok (.iload_n 1, 1) := by decide +kernel
theorem dJ9_floorMod_7cf53_16 : decode cJ9_floorMod_7cf53 16 = .ok (.iadd, 1) := by decide +kernel
theorem dJ9_floorMod_7cf53_17 : decode cJ9_floorMod_7cf53 17 = .ok (.ireturn, 1) := by decide +kernel
theorem dJ9_floorMod_7cf53_18 : decode cJ9_floorMod_7cf53 18 = .ok (.iload_n 2, 1) := by decide +kernel
theorem dJ9_floorMod_7cf53_19 : decode cJ9_floorMod_7cf53 19 = .ok (.ireturn, 1) := by decide +kernel
theorem dJ7_fill_53178_0 : decode cJ7_fill_53178 0 = .ok (.iconst 0, 1) := by decide +kernel
theorem dJ7_fill_53178_1 : decode cJ7_fill_53178 1 = .ok (.istore_n 2, 1) := by decide +kernel
theorem dJ7_fill_53178_2 : decode cJ7_fill_53178 2 = .ok (.aload_n 0, 1) := by decide +kernel
theorem dJ7_fill_53178_3 : decode cJ7_fill_53178 3 = .ok (.arraylength, 1) := by decide +kernel
theorem dJ7_fill_53178_4 : decode cJ7_fill_53178 4 = .ok (.istore_n 3, 1) := by decide +kernel
theorem dJ7_fill_53178_5 : decode cJ7_fill_53178 5 = .ok (.iload_n 2, 1) := by decide +kernel
theorem dJ7_fill_53178_6 : decode cJ7_fill_53178 6 = .ok (.iload_n 3, 1) := by decide +kernel
theorem dJ7_fill_53178_7 : decode cJ7_fill_53178 7 = .ok (.if_icmp .ge 13, 3) := by decide +kernel
theorem dJ7_fill_53178_10 : decode cJ7_fill_53178 10 = .ok (.aload_n 0, 1) := by decide +kernel
theorem dJ7_fill_53178_11 : decode cJ7_fill_53178 11 = .ok (.iload_n 2, 1) := by decide +kernel
theorem dJ7_fill_53178_12 : decode cJ7_fill_53178 12 = .ok (.iload_n 1, 1) := by decide +kernel
theorem dJ7_fill_53178_13 : decode cJ7_fill_53178 13 = .ok (.iastore, 1) := by decide +kernel
theorem dJ7_fill_53178_14 : decode cJ7_fill_53178 14 = .ok (.iinc 2 1, 3) := by decide +kernel
theorem dJ7_fill_53178_17 : decode cJ7_fill_53178 17 = .ok (.goto (-12), 3) := by decide +kernel
theorem dJ7_fill_53178_20 : decode cJ7_fill_53178 20 = .ok (.return_, 1) := by decide +kernel
set_option maxRecDepth 20000 in
theorem ggL_ask_X6_ask : GoodIn wsL_ask wsX6_ask := goodIn_ca (goodIn_ca (goodIn_r _ [7, 8, 9, 10, 6, 11, 12, 13, 14, 15, 16, 17, 18, 19, 20, 21, 22, 23, 24, 25, 26, 27, 28, 29, 30, 31, 32, 33, 34, 35, 36, 37, 38, 39, 40, 41, 42, 43, 44, 45, 46, 47, 48, 49, 50, 51, 52, 53, 54, 55, 56, 57, 58, 59, 60, 61, 62, 63, 64, 65, 66, 67, 68, 69, 70, 71, 72, 73, 74, 75, 76, 77, 78, 79, 80, 81, 82, 83, 84, 85, 86, 87, 88, 89, 90, 91, 92, 93, 94, 95, 96, 97, 98, 99, 100, 101, 102, 103, 104, 105, 106, 107, 108, 109, 110, 111, 112, 113, 114, 115, 116, 117, 118, 119, 120, 121, 122, 123, 124, 125, 126, 127, 128, 129] (by decide +kernel) (by decide +kernel)) (goodIn_sub (fun _ h => List.mem_cons_of_mem _ (List.mem_append_left _ (List.mem_append_right _ h))) (by decide +kernel))) (goodIn_sub (fun _ h => List.mem_cons_of_mem _ (List.mem_append_right _ h)) (by decide +kernel))
set_option maxRecDepth 20000 in
theorem gL_ask_X6_ask : GoodIn wsL_ask (wsV RL 7 RX6 yX6_ask wsX6_ask) := goodIn_app (goodIn_of _ (by decide +kernel)) ggL_ask_X6_ask

theorem dX0_init_0 : decode cX0_init 0 = .ok (.aload_n 0, 1) := by decide +kernel
theorem dX0_init_1 : decode cX0_init 1 = .ok (.invokespecial 3, 3) := by decide +kernel
theorem dX0_init_4 : decode cX0_init 4 = .ok (.aload_n 0, 1) := by decide +kernel
theorem dX0_init_5 : decode cX0_init 5 = .ok (.sipush 300, 3) := by decide +kernel
theorem dX0_init_8 : decode cX0_init 8 = .ok (.newarray .int, 2) := by decide +kernel
theorem dX0_init_10 : decode cX0_init 10 = .ok (.putfield 9, 3) := by decide +kernel
theorem dX0_init_13 : decode cX0_init 13 = .ok (.aload_n 0, 1) := by decide +kernel
theorem dX0_init_14 : decode cX0_init 14 = .ok (.iconst 3, 1) := by decide +kernel
theorem dX0_init_15 : decode cX0_init 15 = .ok (.newarray .int, 2) := by decide +kernel
theorem dX0_init_17 : decode cX0_init 17 = .ok (.putfield 15, 3) := by decide +kernel
theorem dX0_init_20 : decode cX0_init 20 = .ok (.return_, 1) := by decide +kernel
theorem dX0_copyFrom_0 : decode cX0_copyFrom 0 = .ok (.aload_n 1, 1) := by decide +kernel
theorem dX0_copyFrom_1 : decode cX0_copyFrom 1 = .ok (.getfield 9, 3) := by decide +kernel
theorem dX0_copyFrom_4 : decode cX0_copyFrom 4 = .ok (.iconst 0, 1) := by decide +kernel
theorem dX0_copyFrom_5 : decode cX0_copyFrom 5 = .ok (.aload_n 0, 1) := by decide +kernel
theorem dX0_copyFrom_6 : decode cX0_copyFrom 6 = .ok (.getfield 9, 3) := by decide +kernel
theorem dX0_copyFrom_9 : decode cX0_copyFrom 9 = .ok (.iconst 0, 1) := by decide +kernel
theorem dX0_copyFrom_10 : decode cX0_copyFrom 10 = .ok (.sipush 300, 3) := by decide +kernel
theorem dX0_copyFrom_13 : decode cX0_copyFrom 13 = .ok (.invokestatic 18, 3) := by decide +kernel
theorem dX0_copyFrom_16 : decode cX0_copyFrom 16 = .ok (.aload_n 1, 1) := by decide +kernel
theorem dX0_copyFrom_17 : decode cX0_copyFrom 17 = .ok (.getfield 15, 3) := by decide +kernel
theorem dX0_copyFrom_20 : decode cX0_copyFrom 20 = .ok (.iconst 0, 1) := by decide +kernel
theorem dX0_copyFrom_21 : decode cX0_copyFrom 21 = .ok (.aload_n 0, 1) := by decide +kernel
theorem dX0_copyFrom_22 : decode cX0_copyFrom 22 = .ok (.getfield 15, 3) := by decide +kernel
theorem dX0_copyFrom_25 : decode cX0_copyFrom 25 = .ok (.iconst 0, 1) := by decide +kernel
theorem dX0_copyFrom_26 : decode cX0_copyFrom 26 = .ok (.iconst 3, 1) := by decide +kernel
theorem dX0_copyFrom_27 : decode cX0_copyFrom 27 = .ok (.invokestatic 18, 3) := by decide +kernel
theorem dX0_copyFrom_30 : decode cX0_copyFrom 30 = .ok (.aload_n 0, 1) := by decide +kernel
theorem dX0_copyFrom_31 : decode cX0_copyFrom 31 = .ok (.aload_n 1, 1) := by decide +kernel
theorem dX0_copyFrom_32 : decode cX0_copyFrom 32 = .ok (.getfield 24, 3) := by decide +kernel
theorem dX0_copyFrom_35 : decode cX0_copyFrom 35 = .ok (.putfield 24, 3) := by decide +kernel
theorem dX0_copyFrom_38 : decode cX0_copyFrom 38 = .ok (.aload_n 0, 1) := by decide +kernel
theorem dX0_copyFrom_39 : decode cX0_copyFrom 39 = .ok (.aload_n 1, 1) := by decide +kernel
theorem dX0_copyFrom_40 : decode cX0_copyFrom 40 = .ok (.getfield 28, 3) := by decide +kernel
theorem dX0_copyFrom_43 : decode cX0_copyFrom 43 = .ok (.putfield 28, 3) := by decide +kernel
theorem dX0_copyFrom_46 : decode cX0_copyFrom 46 = .ok (.return_, 1) := by decide +kernel
theorem dX0_pack_0 : decode cX0_pack 0 = .ok (.iload_n 3, 1) := by decide +kernel
theorem dX0_pack_1 : decode cX0_pack 1 = .ok (.iconst (-1), 1) := by decide +kernel
theorem dX0_pack_2 : decode cX0_pack 2 = .ok (.isub, 1) := by decide +kernel
theorem dX0_pack_3 : decode cX0_pack 3 = .ok (.iconst 4, 1) := by decide +kernel
theorem dX0_pack_4 : decode cX0_pack 4 = .ok (.iload 4, 2) := by decide +kernel
theorem dX0_pack_6 : decode cX0_pack 6 = .ok (.iconst (-1), 1) := by decide +kernel
theorem dX0_pack_7 : decode cX0_pack 7 = .ok (.isub, 1) := by decide +kernel
theorem dX0_pack_8 : decode cX0_pack 8 = .ok (.imul, 1) := by decide +kernel
theorem dX0_pack_9 : decode cX0_pack 9 = .ok (.iadd, 1) := by decide +kernel
theorem dX0_pack_10 : decode cX0_pack 10 = .ok (.istore 5, 2) := by decide +kernel
theorem dX0_pack_12 : decode cX0_pack 12 = .ok (.iload_n 0, 1) := by decide +kernel
theorem dX0_pack_13 : decode cX0_pack 13 = .ok (.bipush 7, 2) := by decide +kernel
theorem dX0_pack_15 : decode cX0_pack 15 = .ok (.iload_n 1, 1) := by decide +kernel
theorem dX0_pack_16 : decode cX0_pack 16 = .ok (.bipush 6, 2) := by decide +kernel
theorem dX0_pack_18 : decode cX0_pack 18 = .ok (.iload_n 2, 1) := by decide +kernel
theorem dX0_pack_19 : decode cX0_pack 19 = .ok (.bipush 6, 2) := by decide +kernel
theorem dX0_pack_21 : decode cX0_pack 21 = .ok (.iload 5, 2) := by decide +kernel
theorem dX0_pack_23 : decode cX0_pack 23 = .ok (.imul, 1) := by decide +kernel
theorem dX0_pack_24 : decode cX0_pack 24 = .ok (.iadd, 1) := by decide +kernel
theorem dX0_pack_25 : decode cX0_pack 25 = .ok (.imul, 1) := by decide +kernel
theorem dX0_pack_26 : decode cX0_pack 26 = .ok (.iadd, 1) := by decide +kernel
theorem dX0_pack_27 : decode cX0_pack 27 = .ok (.imul, 1) := by decide +kernel
theorem dX0_pack_28 : decode cX0_pack 28 = .ok (.iadd, 1) := by decide +kernel
theorem dX0_pack_29 : decode cX0_pack 29 = .ok (.ireturn, 1) := by decide +kernel
set_option maxRecDepth 20000 in
theorem ggX0_part_J9_floorMod_7cf53 : GoodIn wsX0_part wsJ9_floorMod_7cf53 := goodIn_r _ [4] (by decide +kernel) (by decide +kernel)
set_option maxRecDepth 20000 in
theorem gX0_part_J9_floorMod_7cf53 : GoodIn wsX0_part (va_wsS RX0 31 yJ9_floorMod_7cf53 wsJ9_floorMod_7cf53) := goodIn_app (goodIn_of _ (by decide +kernel)) ggX0_part_J9_floorMod_7cf53
theorem dX0_part_0 : decode cX0_part 0 = .ok (.iload_n 0, 1) := by decide +kernel
theorem dX0_part_1 : decode cX0_part 1 = .ok (.bipush 7, 2) := by decide +kernel
theorem dX0_part_3 : decode cX0_part 3 = .ok (.idiv, 1) := by decide +kernel
theorem dX0_part_4 : decode cX0_part 4 = .ok (.istore_n 2, 1) := by decide +kernel
theorem dX0_part_5 : decode cX0_part 5 = .ok (.iload_n 2, 1) := by decide +kernel
theorem dX0_part_6 : decode cX0_part 6 = .ok (.bipush 36, 2) := by decide +kernel
theorem dX0_part_8 : decode cX0_part 8 = .ok (.idiv, 1) := by decide +kernel
theorem dX0_part_9 : decode cX0_part 9 = .ok (.istore_n 3, 1) := by decide +kernel
theorem dX0_part_10 : decode cX0_part 10 = .ok (.iload_n 1, 1) := by decide +kernel
theorem dX0_part_11 : decode cX0_part 11 = .ok (.tableswitch 61 0 3 #[29, 36, 43, 53], 29) := by decide +kernel
theorem dX0_part_40 : decode cX0_part 40 = .ok (.iload_n 0, 1) := by decide +kernel
theorem dX0_part_41 : decode cX0_part 41 = .ok (.bipush 7, 2) := by decide +kernel
theorem dX0_part_43 : decode cX0_part 43 = .ok (.invokestatic 31, 3) := by decide +kernel
theorem dX0_part_46 : decode cX0_part 46 = .ok (.ireturn, 1) := by decide +kernel
theorem dX0_part_47 : decode cX0_part 47 = .ok (.iload_n 2, 1) := by decide +kernel
theorem dX0_part_48 : decode cX0_part 48 = .ok (.bipush 6, 2) := by decide +kernel
theorem dX0_part_50 : decode cX0_part 50 = .ok (.invokestatic 31, 3) := by decide +kernel
theorem dX0_part_53 : decode cX0_part 53 = .ok (.ireturn, 1) := by decide +kernel
theorem dX0_part_54 : decode cX0_part 54 = .ok (.iload_n 2, 1) := by decide +kernel
theorem dX0_part_55 : decode cX0_part 55 = .ok (.bipush 6, 2) := by decide +kernel
theorem dX0_part_57 : decode cX0_part 57 = .ok (.idiv, 1) := by decide +kernel
theorem dX0_part_58 : decode cX0_part 58 = .ok (.bipush 6, 2) := by decide +kernel
theorem dX0_part_60 : decode cX0_part 60 = .ok (.invokestatic 31, 3) := by decide +kernel
theorem dX0_part_63 : decode cX0_part 63 = .ok (.ireturn, 1) := by decide +kernel
theorem dX0_part_64 : decode cX0_part 64 = .ok (.iload_n 3, 1) := by decide +kernel
theorem dX0_part_65 : decode cX0_part 65 = .ok (.iconst 4, 1) := by decide +kernel
theorem dX0_part_66 : decode cX0_part 66 = .ok (.invokestatic 31, 3) := by decide +kernel
theorem dX0_part_69 : decode cX0_part 69 = .ok (.iconst (-1), 1) := by decide +kernel
theorem dX0_part_70 : decode cX0_part 70 = .ok (.iadd, 1) := by decide +kernel
theorem dX0_part_71 : decode cX0_part 71 = .ok (.ireturn, 1) := by decide +kernel
theorem dX0_part_72 : decode cX0_part 72 = .ok (.iload_n 3, 1) := by decide +kernel
theorem dX0_part_73 : decode cX0_part 73 = .ok (.iconst 4, 1) := by decide +kernel
theorem dX0_part_74 : decode cX0_part 74 = .ok (.idiv, 1) := by decide +kernel
theorem dX0_part_75 : decode cX0_part 75 = .ok (.iconst (-1), 1) := by decide +kernel
theorem dX0_part_76 : decode cX0_part 76 = .ok (.iadd, 1) := by decide +kernel
theorem dX0_part_77 : decode cX0_part 77 = .ok (.ireturn, 1) := by decide +kernel
set_option maxRecDepth 20000 in
theorem ggX0_slot_J9_floorMod_7cf53 : GoodIn wsX0_slot wsJ9_floorMod_7cf53 := goodIn_r _ [5] (by decide +kernel) (by decide +kernel)
set_option maxRecDepth 20000 in
theorem gX0_slot_J9_floorMod_7cf53 : GoodIn wsX0_slot (va_wsS RX0 31 yJ9_floorMod_7cf53 wsJ9_floorMod_7cf53) := goodIn_app (goodIn_of _ (by decide +kernel)) ggX0_slot_J9_floorMod_7cf53
theorem dX0_slot_0 : decode cX0_slot 0 = .ok (.aload_n 0, 1) := by decide +kernel
theorem dX0_slot_1 : decode cX0_slot 1 = .ok (.getfield 24, 3) := by decide +kernel
theorem dX0_slot_4 : decode cX0_slot 4 = .ok (.iload_n 1, 1) := by decide +kernel
theorem dX0_slot_5 : decode cX0_slot 5 = .ok (.iadd, 1) := by decide +kernel
theorem dX0_slot_6 : decode cX0_slot 6 = .ok (.sipush 300, 3) := by decide +kernel
theorem dX0_slot_9 : decode cX0_slot 9 = .ok (.invokestatic 31, 3) := by decide +kernel
theorem dX0_slot_12 : decode cX0_slot 12 = .ok (.ireturn, 1) := by decide +kernel
set_option maxRecDepth 20000 in
theorem ggX0_messageAt_X0_slot : GoodIn wsX0_messageAt wsX0_slot := goodIn_r _ [6, 7, 8, 9, 10, 11, 12, 13, 14, 15] (by decide +kernel) (by decide +kernel)
set_option maxRecDepth 20000 in
theorem gX0_messageAt_X0_slot : GoodIn wsX0_messageAt (wsV RX0 37 RX0 yX0_slot wsX0_slot) := goodIn_app (goodIn_of _ (by decide +kernel)) ggX0_messageAt_X0_slot
theorem dX0_messageAt_0 : decode cX0_messageAt 0 = .ok (.aload_n 0, 1) := by decide +kernel
theorem dX0_messageAt_1 : decode cX0_messageAt 1 = .ok (.getfield 9, 3) := by decide +kernel
theorem dX0_messageAt_4 : decode cX0_messageAt 4 = .ok (.aload_n 0, 1) := by decide +kernel
theorem dX0_messageAt_5 : decode cX0_messageAt 5 = .ok (.iload_n 1, 1) := by decide +kernel
theorem dX0_messageAt_6 : decode cX0_messageAt 6 = .ok (.invokevirtual 37, 3) := by decide +kernel
theorem dX0_messageAt_9 : decode cX0_messageAt 9 = .ok (.iaload, 1) := by decide +kernel
theorem dX0_messageAt_10 : decode cX0_messageAt 10 = .ok (.ireturn, 1) := by decide +kernel
set_option maxRecDepth 20000 in
theorem ggX0_isOfSeat_X0_messageAt : GoodIn wsX0_isOfSeat wsX0_messageAt := goodIn_r _ [5, 6, 7, 8, 9, 4, 10, 11, 12, 13, 14, 15, 19, 20, 21, 22] (by decide +kernel) (by decide +kernel)
set_option maxRecDepth 20000 in
theorem gX0_isOfSeat_X0_messageAt : GoodIn wsX0_isOfSeat (wsV RX0 41 RX0 yX0_messageAt wsX0_messageAt) := goodIn_app (goodIn_of _ (by decide +kernel)) ggX0_isOfSeat_X0_messageAt
set_option maxRecDepth 20000 in
theorem ggX0_isOfSeat_X0_part : GoodIn wsX0_isOfSeat wsX0_part := goodIn_r _ [18, 12, 13, 14, 15] (by decide +kernel) (by decide +kernel)
set_option maxRecDepth 20000 in
theorem gX0_isOfSeat_X0_part : GoodIn wsX0_isOfSeat (va_wsS RX0 44 yX0_part wsX0_part) := goodIn_app (goodIn_of _ (by decide +kernel)) ggX0_isOfSeat_X0_part
theorem dX0_isOfSeat_0 : decode cX0_isOfSeat 0 = .ok (.aload_n 0, 1) := by decide +kernel
theorem dX0_isOfSeat_1 : decode cX0_isOfSeat 1 = .ok (.iload_n 1, 1) := by decide +kernel
theorem dX0_isOfSeat_2 : decode cX0_isOfSeat 2 = .ok (.invokevirtual 41, 3) := by decide +kernel
theorem dX0_isOfSeat_5 : decode cX0_isOfSeat 5 = .ok (.iconst 3, 1) := by decide +kernel
theorem dX0_isOfSeat_6 : decode cX0_isOfSeat 6 = .ok (.invokestatic 44, 3) := by decide +kernel
theorem dX0_isOfSeat_9 : decode cX0_isOfSeat 9 = .ok (.iconst (-1), 1) := by decide +kernel
theorem dX0_isOfSeat_10 : decode cX0_isOfSeat 10 = .ok (.if_icmp .eq 7, 3) := by decide +kernel
theorem dX0_isOfSeat_13 : decode cX0_isOfSeat 13 = .ok (.iconst 1, 1) := by decide +kernel
theorem dX0_isOfSeat_14 : decode cX0_isOfSeat 14 = .ok (.goto 4, 3) := by decide +kernel
theorem dX0_isOfSeat_17 : decode cX0_isOfSeat 17 = .ok (.iconst 0, 1) := by decide +kernel
theorem dX0_isOfSeat_18 : decode cX0_isOfSeat 18 = .ok (.ireturn, 1) := by decide +kernel
theorem dX0_put_0 : decode cX0_put 0 = .ok (.aload_n 0, 1) := by decide +kernel
theorem dX0_put_1 : decode cX0_put 1 = .ok (.getfield 15, 3) := by decide +kernel
theorem dX0_put_4 : decode cX0_put 4 = .ok (.iconst 0, 1) := by decide +kernel
theorem dX0_put_5 : decode cX0_put 5 = .ok (.dup2, 1) := by decide +kernel
theorem dX0_put_6 : decode cX0_put 6 = .ok (.iaload, 1) := by decide +kernel
theorem dX0_put_7 : decode cX0_put 7 = .ok (.iconst 1, 1) := by decide +kernel
theorem dX0_put_8 : decode cX0_put 8 = .ok (.iadd, 1) := by decide +kernel
theorem dX0_put_9 : decode cX0_put 9 = .ok (.iastore, 1) := by decide +kernel
theorem dX0_put_10 : decode cX0_put 10 = .ok (.aload_n 0, 1) := by decide +kernel
theorem dX0_put_11 : decode cX0_put 11 = .ok (.getfield 28, 3) := by decide +kernel
theorem dX0_put_14 : decode cX0_put 14 = .ok (.sipush 300, 3) := by decide +kernel
theorem dX0_put_17 : decode cX0_put 17 = .ok (.if_icmp .lt 14, 3) := by decide +kernel
theorem dX0_put_20 : decode cX0_put 20 = .ok (.aload_n 0, 1) := by decide +kernel
theorem dX0_put_21 : decode cX0_put 21 = .ok (.getfield 15, 3) := by decide +kernel
theorem dX0_put_24 : decode cX0_put 24 = .ok (.iconst 2, 1) := by decide +kernel
theorem dX0_put_25 : decode cX0_put 25 = .ok (.dup2, 1) := by decide +kernel
theorem dX0_put_26 : decode cX0_put 26 = .ok (.iaload, 1) := by decide +kernel
theorem dX0_put_27 : decode cX0_put 27 = .ok (.iconst 1, 1) := by decide +kernel
theorem dX0_put_28 : decode cX0_put 28 = .ok (.iadd, 1) := by decide +kernel
theorem dX0_put_29 : decode cX0_put 29 = .ok (.iastore, 1) := by decide +kernel
theorem dX0_put_30 : decode cX0_put 30 = .ok (.return_, 1) := by decide +kernel
theorem dX0_put_31 : decode cX0_put 31 = .ok (.aload_n 0, 1) := by decide +kernel
theorem dX0_put_32 : decode cX0_put 32 = .ok (.getfield 9, 3) := by decide +kernel
theorem dX0_put_35 : decode cX0_put 35 = .ok (.aload_n 0, 1) := by decide +kernel
theorem dX0_put_36 : decode cX0_put 36 = .ok (.getfield 24, 3) := by decide +kernel
theorem dX0_put_39 : decode cX0_put 39 = .ok (.aload_n 0, 1) := by decide +kernel
theorem dX0_put_40 : decode cX0_put 40 = .ok (.getfield 28, 3) := by decide +kernel
theorem dX0_put_43 : decode cX0_put 43 = .ok (.iadd, 1) := by decide +kernel
theorem dX0_put_44 : decode cX0_put 44 = .ok (.sipush 300, 3) := by decide +kernel
theorem dX0_put_47 : decode cX0_put 47 = .ok (.irem, 1) := by decide +kernel
theorem dX0_put_48 : decode cX0_put 48 = .ok (.iload_n 1, 1) := by decide +kernel
theorem dX0_put_49 : decode cX0_put 49 = .ok (.iastore, 1) := by decide +kernel
theorem dX0_put_50 : decode cX0_put 50 = .ok (.aload_n 0, 1) := by decide +kernel
theorem dX0_put_51 : decode cX0_put 51 = .ok (.dup, 1) := by decide +kernel
theorem dX0_put_52 : decode cX0_put 52 = .ok (.getfield 28, 3) := by decide +kernel
theorem dX0_put_55 : decode cX0_put 55 = .ok (.iconst 1, 1) := by decide +kernel
theorem dX0_put_56 : decode cX0_put 56 = .ok (.iadd, 1) := by decide +kernel
theorem dX0_put_57 : decode cX0_put 57 = .ok (.putfield 28, 3) := by decide +kernel
theorem dX0_put_60 : decode cX0_put 60 = .ok (.return_, 1) := by decide +kernel
set_option maxRecDepth 20000 in
theorem ggX0_takeOldest_X0_messageAt : GoodIn wsX0_takeOldest wsX0_messageAt := goodIn_r _ [8, 9, 10, 11, 12, 7, 13, 1, 14, 15, 16, 17, 18, 19, 20, 21] (by decide +kernel) (by decide +kernel)
set_option maxRecDepth 20000 in
theorem gX0_takeOldest_X0_messageAt : GoodIn wsX0_takeOldest (wsV RX0 41 RX0 yX0_messageAt wsX0_messageAt) := goodIn_app (goodIn_of _ (by decide +kernel)) ggX0_takeOldest_X0_messageAt
set_option maxRecDepth 20000 in
theorem ggX0_takeOldest_X0_slot : GoodIn wsX0_takeOldest wsX0_slot := goodIn_r _ [13, 1, 14, 15, 16, 17, 18, 19, 20, 21] (by decide +kernel) (by decide +kernel)
set_option maxRecDepth 20000 in
theorem gX0_takeOldest_X0_slot : GoodIn wsX0_takeOldest (wsV RX0 37 RX0 yX0_slot wsX0_slot) := goodIn_app (goodIn_of _ (by decide +kernel)) ggX0_takeOldest_X0_slot
theorem dX0_takeOldest_0 : decode cX0_takeOldest 0 = .ok (.aload_n 0, 1) := by decide +kernel
theorem dX0_takeOldest_1 : decode cX0_takeOldest 1 = .ok (.iconst 0, 1) := by decide +kernel
theorem dX0_takeOldest_2 : decode cX0_takeOldest 2 = .ok (.invokevirtual 41, 3) := by decide +kernel
theorem dX0_takeOldest_5 : decode cX0_takeOldest 5 = .ok (.istore_n 1, 1) := by decide +kernel
theorem dX0_takeOldest_6 : decode cX0_takeOldest 6 = .ok (.aload_n 0, 1) := by decide +kernel
theorem dX0_takeOldest_7 : decode cX0_takeOldest 7 = .ok (.aload_n 0, 1) := by decide +kernel
theorem dX0_takeOldest_8 : decode cX0_takeOldest 8 = .ok (.iconst 1, 1) := by decide +kernel
theorem dX0_takeOldest_9 : decode cX0_takeOldest 9 = .ok (.invokevirtual 37, 3) := by decide +kernel
theorem dX0_takeOldest_12 : decode cX0_takeOldest 12 = .ok (.putfield 24, 3) := by decide +kernel
theorem dX0_takeOldest_15 : decode cX0_takeOldest 15 = .ok (.aload_n 0, 1) := by decide +kernel
theorem dX0_takeOldest_16 : decode cX0_takeOldest 16 = .ok (.dup, 1) := by decide +kernel
theorem dX0_takeOldest_17 : decode cX0_takeOldest 17 = .ok (.getfield 28, 3) := by decide +kernel
theorem dX0_takeOldest_20 : decode cX0_takeOldest 20 = .ok (.iconst 1, 1) := by decide +kernel
theorem dX0_takeOldest_21 : decode cX0_takeOldest 21 = .ok (.isub, 1) := by decide +kernel
theorem dX0_takeOldest_22 : decode cX0_takeOldest 22 = .ok (.putfield 28, 3) := by decide +kernel
theorem dX0_takeOldest_25 : decode cX0_takeOldest 25 = .ok (.aload_n 0, 1) := by decide +kernel
theorem dX0_takeOldest_26 : decode cX0_takeOldest 26 = .ok (.getfield 15, 3) := by decide +kernel
theorem dX0_takeOldest_29 : decode cX0_takeOldest 29 = .ok (.iconst 1, 1) := by decide +kernel
theorem dX0_takeOldest_30 : decode cX0_takeOldest 30 = .ok (.dup2, 1) := by decide +kernel
theorem dX0_takeOldest_31 : decode cX0_takeOldest 31 = .ok (.iaload, 1) := by decide +kernel
theorem dX0_takeOldest_32 : decode cX0_takeOldest 32 = .ok (.iconst 1, 1) := by decide +kernel
theorem dX0_takeOldest_33 : decode cX0_takeOldest 33 = .ok (.iadd, 1) := by decide +kernel
theorem dX0_takeOldest_34 : decode cX0_takeOldest 34 = .ok (.iastore, 1) := by decide +kernel
theorem dX0_takeOldest_35 : decode cX0_takeOldest 35 = .ok (.iload_n 1, 1) := by decide +kernel
theorem dX0_takeOldest_36 : decode cX0_takeOldest 36 = .ok (.ireturn, 1) := by decide +kernel
set_option maxRecDepth 20000 in
theorem ggX0_loseAt_X0_messageAt : GoodIn wsX0_loseAt wsX0_messageAt := goodIn_r _ [8, 2, 9, 10, 11, 7, 12, 13, 14, 15, 16, 17, 18, 19, 20, 21] (by decide +kernel) (by decide +kernel)
set_option maxRecDepth 20000 in
theorem gX0_loseAt_X0_messageAt : GoodIn wsX0_loseAt (wsV RX0 41 RX0 yX0_messageAt wsX0_messageAt) := goodIn_app (goodIn_of _ (by decide +kernel)) ggX0_loseAt_X0_messageAt
set_option maxRecDepth 20000 in
theorem ggX0_loseAt_X0_slot : GoodIn wsX0_loseAt wsX0_slot := goodIn_r _ [12, 13, 14, 15, 16, 17, 18, 19, 20, 21] (by decide +kernel) (by decide +kernel)
set_option maxRecDepth 20000 in
theorem gX0_loseAt_X0_slot : GoodIn wsX0_loseAt (wsV RX0 37 RX0 yX0_slot wsX0_slot) := goodIn_app (goodIn_of _ (by decide +kernel)) ggX0_loseAt_X0_slot
theorem dX0_loseAt_0 : decode cX0_loseAt 0 = .ok (.aload_n 0, 1) := by decide +kernel
theorem dX0_loseAt_1 : decode cX0_loseAt 1 = .ok (.iload_n 1, 1) := by decide +kernel
theorem dX0_loseAt_2 : decode cX0_loseAt 2 = .ok (.invokevirtual 41, 3) := by decide +kernel
theorem dX0_loseAt_5 : decode cX0_loseAt 5 = .ok (.istore_n 2, 1) := by decide +kernel
theorem dX0_loseAt_6 : decode cX0_loseAt 6 = .ok (.iload_n 1, 1) := by decide +kernel
theorem dX0_loseAt_7 : decode cX0_loseAt 7 = .ok (.iconst 1, 1) := by decide +kernel
theorem dX0_loseAt_8 : decode cX0_loseAt 8 = .ok (.iadd, 1) := by decide +kernel
theorem dX0_loseAt_9 : decode cX0_loseAt 9 = .ok (.istore_n 3, 1) := by decide +kernel
theorem dX0_loseAt_10 : decode cX0_loseAt 10 = .ok (.iload_n 3, 1) := by decide +kernel
theorem dX0_loseAt_11 : decode cX0_loseAt 11 = .ok (.aload_n 0, 1) := by decide +kernel
theorem dX0_loseAt_12 : decode cX0_loseAt 12 = .ok (.getfield 28, 3) := by decide +kernel
theorem dX0_loseAt_15 : decode cX0_loseAt 15 = .ok (.if_icmp .ge 31, 3) := by decide +kernel
theorem dX0_loseAt_18 : decode cX0_loseAt 18 = .ok (.aload_n 0, 1) := by decide +kernel
theorem dX0_loseAt_19 : decode cX0_loseAt 19 = .ok (.getfield 9, 3) := by decide +kernel
theorem dX0_loseAt_22 : decode cX0_loseAt 22 = .ok (.aload_n 0, 1) := by decide +kernel
theorem dX0_loseAt_23 : decode cX0_loseAt 23 = .ok (.iload_n 3, 1) := by decide +kernel
theorem dX0_loseAt_24 : decode cX0_loseAt 24 = .ok (.iconst 1, 1) := by decide +kernel
theorem dX0_loseAt_25 : decode cX0_loseAt 25 = .ok (.isub, 1) := by decide +kernel
theorem dX0_loseAt_26 : decode cX0_loseAt 26 = .ok (.invokevirtual 37, 3) := by decide +kernel
theorem dX0_loseAt_29 : decode cX0_loseAt 29 = .ok (.aload_n 0, 1) := by decide +kernel
theorem dX0_loseAt_30 : decode cX0_loseAt 30 = .ok (.getfield 9, 3) := by decide +kernel
theorem dX0_loseAt_33 : decode cX0_loseAt 33 = .ok (.aload_n 0, 1) := by decide +kernel
theorem dX0_loseAt_34 : decode cX0_loseAt 34 = .ok (.iload_n 3, 1) := by decide +kernel
theorem dX0_loseAt_35 : decode cX0_loseAt 35 = .ok (.invokevirtual 37, 3) := by decide +kernel
theorem dX0_loseAt_38 : decode cX0_loseAt 38 = .ok (.iaload, 1) := by decide +kernel
theorem dX0_loseAt_39 : decode cX0_loseAt 39 = .ok (.iastore, 1) := by decide +kernel
theorem dX0_loseAt_40 : decode cX0_loseAt 40 = .ok (.iinc 3 1, 3) := by decide +kernel
theorem dX0_loseAt_43 : decode cX0_loseAt 43 = .ok (.goto (-33), 3) := by decide +kernel
theorem dX0_loseAt_46 : decode cX0_loseAt 46 = .ok (.aload_n 0, 1) := by decide +kernel
theorem dX0_loseAt_47 : decode cX0_loseAt 47 = .ok (.dup, 1) := by decide +kernel
theorem dX0_loseAt_48 : decode cX0_loseAt 48 = .ok (.getfield 28, 3) := by decide +kernel
theorem dX0_loseAt_51 : decode cX0_loseAt 51 = .ok (.iconst 1, 1) := by decide +kernel
theorem dX0_loseAt_52 : decode cX0_loseAt 52 = .ok (.isub, 1) := by decide +kernel
theorem dX0_loseAt_53 : decode cX0_loseAt 53 = .ok (.putfield 28, 3) := by decide +kernel
theorem dX0_loseAt_56 : decode cX0_loseAt 56 = .ok (.aload_n 0, 1) := by decide +kernel
theorem dX0_loseAt_57 : decode cX0_loseAt 57 = .ok (.getfield 15, 3) := by decide +kernel
theorem dX0_loseAt_60 : decode cX0_loseAt 60 = .ok (.iconst 2, 1) := by decide +kernel
theorem dX0_loseAt_61 : decode cX0_loseAt 61 = .ok (.dup2, 1) := by decide +kernel
theorem dX0_loseAt_62 : decode cX0_loseAt 62 = .ok (.iaload, 1) := by decide +kernel
theorem dX0_loseAt_63 : decode cX0_loseAt 63 = .ok (.iconst 1, 1) := by decide +kernel
theorem dX0_loseAt_64 : decode cX0_loseAt 64 = .ok (.iadd, 1) := by decide +kernel
theorem dX0_loseAt_65 : decode cX0_loseAt 65 = .ok (.iastore, 1) := by decide +kernel
theorem dX0_loseAt_66 : decode cX0_loseAt 66 = .ok (.iload_n 2, 1) := by decide +kernel
theorem dX0_loseAt_67 : decode cX0_loseAt 67 = .ok (.ireturn, 1) := by decide +kernel
set_option maxRecDepth 20000 in
theorem ggX0_hashMessages_X0_messageAt : GoodIn wsX0_hashMessages wsX0_messageAt := goodIn_r _ [8, 9, 10, 11, 12, 7, 13, 14, 15, 16, 17, 18, 22, 23, 24, 25] (by decide +kernel) (by decide +kernel)
set_option maxRecDepth 20000 in
theorem gX0_hashMessages_X0_messageAt : GoodIn wsX0_hashMessages (wsV RX0 41 RX0 yX0_messageAt wsX0_messageAt) := goodIn_app (goodIn_of _ (by decide +kernel)) ggX0_hashMessages_X0_messageAt
set_option maxRecDepth 20000 in
theorem ggX0_hashMessages_X0_part : GoodIn wsX0_hashMessages wsX0_part := goodIn_r _ [21, 15, 16, 17, 18] (by decide +kernel) (by decide +kernel)
set_option maxRecDepth 20000 in
theorem gX0_hashMessages_X0_part : GoodIn wsX0_hashMessages (va_wsS RX0 44 yX0_part wsX0_part) := goodIn_app (goodIn_of _ (by decide +kernel)) ggX0_hashMessages_X0_part
theorem dX0_hashMessages_0 : decode cX0_hashMessages 0 = .ok (.lload_n 1, 1) := by decide +kernel
theorem dX0_hashMessages_1 : decode cX0_hashMessages 1 = .ok (.lstore_n 3, 1) := by decide +kernel
theorem dX0_hashMessages_2 : decode cX0_hashMessages 2 = .ok (.iconst 0, 1) := by decide +kernel
theorem dX0_hashMessages_3 : decode cX0_hashMessages 3 = .ok (.istore 5, 2) := by decide +kernel
theorem dX0_hashMessages_5 : decode cX0_hashMessages 5 = .ok (.iload 5, 2) := by decide +kernel
theorem dX0_hashMessages_7 : decode cX0_hashMessages 7 = .ok (.iconst 3, 1) := by decide +kernel
theorem dX0_hashMessages_8 : decode cX0_hashMessages 8 = .ok (.if_icmp .ge 24, 3) := by decide +kernel
theorem dX0_hashMessages_11 : decode cX0_hashMessages 11 = .ok (.ldc2_w 47, 3) := by decide +kernel
theorem dX0_hashMessages_14 : decode cX0_hashMessages 14 = .ok (.lload_n 3, 1) := by decide +kernel
theorem dX0_hashMessages_15 : decode cX0_hashMessages 15 = .ok (.lmul, 1) := by decide +kernel
theorem dX0_hashMessages_16 : decode cX0_hashMessages 16 = .ok (.aload_n 0, 1) := by decide +kernel
theorem dX0_hashMessages_17 : decode cX0_hashMessages 17 = .ok (.getfield 15, 3) := by decide +kernel
theorem dX0_hashMessages_20 : decode cX0_hashMessages 20 = .ok (.iload 5, 2) := by decide +kernel
theorem dX0_hashMessages_22 : decode cX0_hashMessages 22 = .ok (.iaload, 1) := by decide +kernel
theorem dX0_hashMessages_23 : decode cX0_hashMessages 23 = .ok (.i2l, 1) := by decide +kernel
theorem dX0_hashMessages_24 : decode cX0_hashMessages 24 = .ok (.ladd, 1) := by decide +kernel
theorem dX0_hashMessages_25 : decode cX0_hashMessages 25 = .ok (.lstore_n 3, 1) := by decide +kernel
theorem dX0_hashMessages_26 : decode cX0_hashMessages 26 = .ok (.iinc 5 1, 3) := by decide +kernel
theorem dX0_hashMessages_29 : decode cX0_hashMessages 29 = .ok (.goto (-24), 3) := by decide +kernel
theorem dX0_hashMessages_32 : decode cX0_hashMessages 32 = .ok (.ldc2_w 47, 3) := by decide +kernel
theorem dX0_hashMessages_35 : decode cX0_hashMessages 35 = .ok (.lload_n 3, 1) := by decide +kernel
theorem dX0_hashMessages_36 : decode cX0_hashMessages 36 = .ok (.lmul, 1) := by decide +kernel
theorem dX0_hashMessages_37 : decode cX0_hashMessages 37 = .ok (.aload_n 0, 1) := by decide +kernel
theorem dX0_hashMessages_38 : decode cX0_hashMessages 38 = .ok (.getfield 28, 3) := by decide +kernel
theorem dX0_hashMessages_41 : decode cX0_hashMessages 41 = .ok (.i2l, 1) := by decide +kernel
theorem dX0_hashMessages_42 : decode cX0_hashMessages 42 = .ok (.ladd, 1) := by decide +kernel
theorem dX0_hashMessages_43 : decode cX0_hashMessages 43 = .ok (.lstore_n 3, 1) := by decide +kernel
theorem dX0_hashMessages_44 : decode cX0_hashMessages 44 = .ok (.iconst 0, 1) := by decide +kernel
theorem dX0_hashMessages_45 : decode cX0_hashMessages 45 = .ok (.istore 5, 2) := by decide +kernel
theorem dX0_hashMessages_47 : decode cX0_hashMessages 47 = .ok (.iload 5, 2) := by decide +kernel
theorem dX0_hashMessages_49 : decode cX0_hashMessages 49 = .ok (.aload_n 0, 1) := by decide +kernel
theorem dX0_hashMessages_50 : decode cX0_hashMessages 50 = .ok (.getfield 28, 3) := by decide +kernel
theorem dX0_hashMessages_53 : decode cX0_hashMessages 53 = .ok (.if_icmp .ge 47, 3) := by decide +kernel
theorem dX0_hashMessages_56 : decode cX0_hashMessages 56 = .ok (.aload_n 0, 1) := by decide +kernel
theorem dX0_hashMessages_57 : decode cX0_hashMessages 57 = .ok (.iload 5, 2) := by decide +kernel
theorem dX0_hashMessages_59 : decode cX0_hashMessages 59 = .ok (.invokevirtual 41, 3) := by decide +kernel
theorem dX0_hashMessages_62 : decode cX0_hashMessages 62 = .ok (.istore 6, 2) := by decide +kernel
theorem dX0_hashMessages_64 : decode cX0_hashMessages 64 = .ok (.iconst 0, 1) := by decide +kernel
theorem dX0_hashMessages_65 : decode cX0_hashMessages 65 = .ok (.istore 7, 2) := by decide +kernel
theorem dX0_hashMessages_67 : decode cX0_hashMessages 67 = .ok (.iload 7, 2) := by decide +kernel
theorem dX0_hashMessages_69 : decode cX0_hashMessages 69 = .ok (.iconst 5, 1) := by decide +kernel
theorem dX0_hashMessages_70 : decode cX0_hashMessages 70 = .ok (.if_icmp .ge 24, 3) := by decide +kernel
theorem dX0_hashMessages_73 : decode cX0_hashMessages 73 = .ok (.ldc2_w 47, 3) := by decide +kernel
theorem dX0_hashMessages_76 : decode cX0_hashMessages 76 = .ok (.lload_n 3, 1) := by decide +kernel
theorem dX0_hashMessages_77 : decode cX0_hashMessages 77 = .ok (.lmul, 1) := by decide +kernel
theorem dX0_hashMessages_78 : decode cX0_hashMessages 78 = .ok (.iload 6, 2) := by decide +kernel
theorem dX0_hashMessages_80 : decode cX0_hashMessages 80 = .ok (.iload 7, 2) := by decide +kernel
theorem dX0_hashMessages_82 : decode cX0_hashMessages 82 = .ok (.invokestatic 44, 3) := by decide +kernel
theorem dX0_hashMessages_85 : decode cX0_hashMessages 85 = .ok (.i2l, 1) := by decide +kernel
theorem dX0_hashMessages_86 : decode cX0_hashMessages 86 = .ok (.ladd, 1) := by decide +kernel
theorem dX0_hashMessages_87 : decode cX0_hashMessages 87 = .ok (.lstore_n 3, 1) := by decide +kernel
theorem dX0_hashMessages_88 : decode cX0_hashMessages 88 = .ok (.iinc 7 1, 3) := by decide +kernel
theorem dX0_hashMessages_91 : decode cX0_hashMessages 91 = .ok (.goto (-24), 3) := by decide +kernel
theorem dX0_hashMessages_94 : decode cX0_hashMessages 94 = .ok (.iinc 5 1, 3) := by decide +kernel
theorem dX0_hashMessages_97 : decode cX0_hashMessages 97 = .ok (.goto (-50), 3) := by decide +kernel
theorem dX0_hashMessages_100 : decode cX0_hashMessages 100 = .ok (.lload_n 3, 1) := by decide +kernel
theorem dX0_hashMessages_101 : decode cX0_hashMessages 101 = .ok (.lreturn, 1) := by decide +kernel
theorem dX1_init_0 : decode cX1_init 0 = .ok (.aload_n 0, 1) := by decide +kernel
theorem dX1_init_1 : decode cX1_init 1 = .ok (.invokespecial 3, 3) := by decide +kernel
theorem dX1_init_4 : decode cX1_init 4 = .ok (.aload_n 0, 1) := by decide +kernel
theorem dX1_init_5 : decode cX1_init 5 = .ok (.bipush 36, 2) := by decide +kernel
theorem dX1_init_7 : decode cX1_init 7 = .ok (.newarray .int, 2) := by decide +kernel
theorem dX1_init_9 : decode cX1_init 9 = .ok (.putfield 9, 3) := by decide +kernel
theorem dX1_init_12 : decode cX1_init 12 = .ok (.aload_n 0, 1) := by decide +kernel
theorem dX1_init_13 : decode cX1_init 13 = .ok (.bipush 36, 2) := by decide +kernel
theorem dX1_init_15 : decode cX1_init 15 = .ok (.newarray .int, 2) := by decide +kernel
theorem dX1_init_17 : decode cX1_init 17 = .ok (.putfield 15, 3) := by decide +kernel
theorem dX1_init_20 : decode cX1_init 20 = .ok (.aload_n 0, 1) := by decide +kernel
theorem dX1_init_21 : decode cX1_init 21 = .ok (.bipush 6, 2) := by decide +kernel
theorem dX1_init_23 : decode cX1_init 23 = .ok (.newarray .int, 2) := by decide +kernel
theorem dX1_init_25 : decode cX1_init 25 = .ok (.putfield 18, 3) := by decide +kernel
theorem dX1_init_28 : decode cX1_init 28 = .ok (.return_, 1) := by decide +kernel
theorem dX1_copyFrom_0 : decode cX1_copyFrom 0 = .ok (.aload_n 1, 1) := by decide +kernel
theorem dX1_copyFrom_1 : decode cX1_copyFrom 1 = .ok (.getfield 9, 3) := by decide +kernel
theorem dX1_copyFrom_4 : decode cX1_copyFrom 4 = .ok (.iconst 0, 1) := by decide +kernel
theorem dX1_copyFrom_5 : decode cX1_copyFrom 5 = .ok (.aload_n 0, 1) := by decide +kernel
theorem dX1_copyFrom_6 : decode cX1_copyFrom 6 = .ok (.getfield 9, 3) := by decide +kernel
theorem dX1_copyFrom_9 : decode cX1_copyFrom 9 = .ok (.iconst 0, 1) := by decide +kernel
theorem dX1_copyFrom_10 : decode cX1_copyFrom 10 = .ok (.bipush 36, 2) := by decide +kernel
theorem dX1_copyFrom_12 : decode cX1_copyFrom 12 = .ok (.invokestatic 21, 3) := by decide +kernel
theorem dX1_copyFrom_15 : decode cX1_copyFrom 15 = .ok (.aload_n 1, 1) := by decide +kernel
theorem dX1_copyFrom_16 : decode cX1_copyFrom 16 = .ok (.getfield 15, 3) := by decide +kernel
theorem dX1_copyFrom_19 : decode cX1_copyFrom 19 = .ok (.iconst 0, 1) := by decide +kernel
theorem dX1_copyFrom_20 : decode cX1_copyFrom 20 = .ok (.aload_n 0, 1) := by decide +kernel
theorem dX1_copyFrom_21 : decode cX1_copyFrom 21 = .ok (.getfield 15, 3) := by decide +kernel
theorem dX1_copyFrom_24 : decode cX1_copyFrom 24 = .ok (.iconst 0, 1) := by decide +kernel
theorem dX1_copyFrom_25 : decode cX1_copyFrom 25 = .ok (.bipush 36, 2) := by decide +kernel
theorem dX1_copyFrom_27 : decode cX1_copyFrom 27 = .ok (.invokestatic 21, 3) := by decide +kernel
theorem dX1_copyFrom_30 : decode cX1_copyFrom 30 = .ok (.aload_n 1, 1) := by decide +kernel
theorem dX1_copyFrom_31 : decode cX1_copyFrom 31 = .ok (.getfield 18, 3) := by decide +kernel
theorem dX1_copyFrom_34 : decode cX1_copyFrom 34 = .ok (.iconst 0, 1) := by decide +kernel
theorem dX1_copyFrom_35 : decode cX1_copyFrom 35 = .ok (.aload_n 0, 1) := by decide +kernel
theorem dX1_copyFrom_36 : decode cX1_copyFrom 36 = .ok (.getfield 18, 3) := by decide +kernel
theorem dX1_copyFrom_39 : decode cX1_copyFrom 39 = .ok (.iconst 0, 1) := by decide +kernel
theorem dX1_copyFrom_40 : decode cX1_copyFrom 40 = .ok (.bipush 6, 2) := by decide +kernel
theorem dX1_copyFrom_42 : decode cX1_copyFrom 42 = .ok (.invokestatic 21, 3) := by decide +kernel
theorem dX1_copyFrom_45 : decode cX1_copyFrom 45 = .ok (.return_, 1) := by decide +kernel
theorem dX1_state_0 : decode cX1_state 0 = .ok (.aload_n 0, 1) := by decide +kernel
theorem dX1_state_1 : decode cX1_state 1 = .ok (.getfield 9, 3) := by decide +kernel
theorem dX1_state_4 : decode cX1_state 4 = .ok (.iload_n 1, 1) := by decide +kernel
theorem dX1_state_5 : decode cX1_state 5 = .ok (.bipush 6, 2) := by decide +kernel
theorem dX1_state_7 : decode cX1_state 7 = .ok (.imul, 1) := by decide +kernel
theorem dX1_state_8 : decode cX1_state 8 = .ok (.iload_n 2, 1) := by decide +kernel
theorem dX1_state_9 : decode cX1_state 9 = .ok (.iadd, 1) := by decide +kernel
theorem dX1_state_10 : decode cX1_state 10 = .ok (.iaload, 1) := by decide +kernel
theorem dX1_state_11 : decode cX1_state 11 = .ok (.ireturn, 1) := by decide +kernel
theorem dX1_entryVersion_0 : decode cX1_entryVersion 0 = .ok (.aload_n 0, 1) := by decide +kernel
theorem dX1_entryVersion_1 : decode cX1_entryVersion 1 = .ok (.getfield 15, 3) := by decide +kernel
theorem dX1_entryVersion_4 : decode cX1_entryVersion 4 = .ok (.iload_n 1, 1) := by decide +kernel
theorem dX1_entryVersion_5 : decode cX1_entryVersion 5 = .ok (.bipush 6, 2) := by decide +kernel
theorem dX1_entryVersion_7 : decode cX1_entryVersion 7 = .ok (.imul, 1) := by decide +kernel
theorem dX1_entryVersion_8 : decode cX1_entryVersion 8 = .ok (.iload_n 2, 1) := by decide +kernel
theorem dX1_entryVersion_9 : decode cX1_entryVersion 9 = .ok (.iadd, 1) := by decide +kernel
theorem dX1_entryVersion_10 : decode cX1_entryVersion 10 = .ok (.iaload, 1) := by decide +kernel
theorem dX1_entryVersion_11 : decode cX1_entryVersion 11 = .ok (.ireturn, 1) := by decide +kernel
theorem dX1_rosterVersion_0 : decode cX1_rosterVersion 0 = .ok (.aload_n 0, 1) := by decide +kernel
theorem dX1_rosterVersion_1 : decode cX1_rosterVersion 1 = .ok (.getfield 18, 3) := by decide +kernel
theorem dX1_rosterVersion_4 : decode cX1_rosterVersion 4 = .ok (.iload_n 1, 1) := by decide +kernel
theorem dX1_rosterVersion_5 : decode cX1_rosterVersion 5 = .ok (.iaload, 1) := by decide +kernel
theorem dX1_rosterVersion_6 : decode cX1_rosterVersion 6 = .ok (.ireturn, 1) := by decide +kernel
theorem dX1_hasAny_0 : decode cX1_hasAny 0 = .ok (.aload_n 0, 1) := by decide +kernel
theorem dX1_hasAny_1 : decode cX1_hasAny 1 = .ok (.getfield 9, 3) := by decide +kernel
theorem dX1_hasAny_4 : decode cX1_hasAny 4 = .ok (.iload_n 1, 1) := by decide +kernel
theorem dX1_hasAny_5 : decode cX1_hasAny 5 = .ok (.bipush 6, 2) := by decide +kernel
theorem dX1_hasAny_7 : decode cX1_hasAny 7 = .ok (.imul, 1) := by decide +kernel
theorem dX1_hasAny_8 : decode cX1_hasAny 8 = .ok (.iload_n 2, 1) := by decide +kernel
theorem dX1_hasAny_9 : decode cX1_hasAny 9 = .ok (.iadd, 1) := by decide +kernel
theorem dX1_hasAny_10 : decode cX1_hasAny 10 = .ok (.iaload, 1) := by decide +kernel
theorem dX1_hasAny_11 : decode cX1_hasAny 11 = .ok (.iload_n 3, 1) := by decide +kernel
theorem dX1_hasAny_12 : decode cX1_hasAny 12 = .ok (.iand, 1) := by decide +kernel
theorem dX1_hasAny_13 : decode cX1_hasAny 13 = .ok (.ifCond .eq 7, 3) := by decide +kernel
theorem dX1_hasAny_16 : decode cX1_hasAny 16 = .ok (.iconst 1, 1) := by decide +kernel
theorem dX1_hasAny_17 : decode cX1_hasAny 17 = .ok (.goto 4, 3) := by decide +kernel
theorem dX1_hasAny_20 : decode cX1_hasAny 20 = .ok (.iconst 0, 1) := by decide +kernel
theorem dX1_hasAny_21 : decode cX1_hasAny 21 = .ok (.ireturn, 1) := by decide +kernel
theorem dX1_change_0 : decode cX1_change 0 = .ok (.iload_n 1, 1) := by decide +kernel
theorem dX1_change_1 : decode cX1_change 1 = .ok (.bipush 6, 2) := by decide +kernel
theorem dX1_change_3 : decode cX1_change 3 = .ok (.imul, 1) := by decide +kernel
theorem dX1_change_4 : decode cX1_change 4 = .ok (.iload_n 2, 1) := by decide +kernel
theorem dX1_change_5 : decode cX1_change 5 = .ok (.iadd, 1) := by decide +kernel
theorem dX1_change_6 : decode cX1_change 6 = .ok (.istore 5, 2) := by decide +kernel
theorem dX1_change_8 : decode cX1_change 8 = .ok (.aload_n 0, 1) := by decide +kernel
theorem dX1_change_9 : decode cX1_change 9 = .ok (.getfield 9, 3) := by decide +kernel
theorem dX1_change_12 : decode cX1_change 12 = .ok (.iload 5, 2) := by decide +kernel
theorem dX1_change_14 : decode cX1_change 14 = .ok (.iaload, 1) := by decide +kernel
theorem dX1_change_15 : decode cX1_change 15 = .ok (.iload_n 3, 1) := by decide +kernel
theorem dX1_change_16 : decode cX1_change 16 = .ok (.iconst (-1), 1) := by decide +kernel
theorem dX1_change_17 : decode cX1_change 17 = .ok (.ixor, 1) := by decide +kernel
theorem dX1_change_18 : decode cX1_change 18 = .ok (.iand, 1) := by decide +kernel
theorem dX1_change_19 : decode cX1_change 19 = .ok (.iload 4, 2) := by decide +kernel
theorem dX1_change_21 : decode cX1_change 21 = .ok (.ior, 1) := by decide +kernel
theorem dX1_change_22 : decode cX1_change 22 = .ok (.istore 6, 2) := by decide +kernel
theorem dX1_change_24 : decode cX1_change 24 = .ok (.iload 6, 2) := by decide +kernel
theorem dX1_change_26 : decode cX1_change 26 = .ok (.aload_n 0, 1) := by decide +kernel
theorem dX1_change_27 : decode cX1_change 27 = .ok (.getfield 9, 3) := by decide +kernel
theorem dX1_change_30 : decode cX1_change 30 = .ok (.iload 5, 2) := by decide +kernel
theorem dX1_change_32 : decode cX1_change 32 = .ok (.iaload, 1) := by decide +kernel
theorem dX1_change_33 : decode cX1_change 33 = .ok (.if_icmp .eq 35, 3) := by decide +kernel
theorem dX1_change_36 : decode cX1_change 36 = .ok (.aload_n 0, 1) := by decide +kernel
theorem dX1_change_37 : decode cX1_change 37 = .ok (.getfield 9, 3) := by decide +kernel
theorem dX1_change_40 : decode cX1_change 40 = .ok (.iload 5, 2) := by decide +kernel
theorem dX1_change_42 : decode cX1_change 42 = .ok (.iload 6, 2) := by decide +kernel
theorem dX1_change_44 : decode cX1_change 44 = .ok (.iastore, 1) := by decide +kernel
theorem dX1_change_45 : decode cX1_change 45 = .ok (.aload_n 0, 1) := by decide +kernel
theorem dX1_change_46 : decode cX1_change 46 = .ok (.getfield 18, 3) := by decide +kernel
theorem dX1_change_49 : decode cX1_change 49 = .ok (.iload_n 1, 1) := by decide +kernel
theorem dX1_change_50 : decode cX1_change 50 = .ok (.dup2, 1) := by decide +kernel
theorem dX1_change_51 : decode cX1_change 51 = .ok (.iaload, 1) := by decide +kernel
theorem dX1_change_52 : decode cX1_change 52 = .ok (.iconst 1, 1) := by decide +kernel
theorem dX1_change_53 : decode cX1_change 53 = .ok (.iadd, 1) := by decide +kernel
theorem dX1_change_54 : decode cX1_change 54 = .ok (.iastore, 1) := by decide +kernel
theorem dX1_change_55 : decode cX1_change 55 = .ok (.aload_n 0, 1) := by decide +kernel
theorem dX1_change_56 : decode cX1_change 56 = .ok (.getfield 15, 3) := by decide +kernel
theorem dX1_change_59 : decode cX1_change 59 = .ok (.iload 5, 2) := by decide +kernel
theorem dX1_change_61 : decode cX1_change 61 = .ok (.aload_n 0, 1) := by decide +kernel
theorem dX1_change_62 : decode cX1_change 62 = .ok (.getfield 18, 3) := by decide +kernel
theorem dX1_change_65 : decode cX1_change 65 = .ok (.iload_n 1, 1) := by decide +kernel
theorem dX1_change_66 : decode cX1_change 66 = .ok (.iaload, 1) := by decide +kernel
theorem dX1_change_67 : decode cX1_change 67 = .ok (.iastore, 1) := by decide +kernel
theorem dX1_change_68 : decode cX1_change 68 = .ok (.return_, 1) := by decide +kernel
theorem dX1_changedAfter_0 : decode cX1_changedAfter 0 = .ok (.iconst 0, 1) := by decide +kernel
theorem dX1_changedAfter_1 : decode cX1_changedAfter 1 = .ok (.istore_n 3, 1) := by decide +kernel
theorem dX1_changedAfter_2 : decode cX1_changedAfter 2 = .ok (.iconst 0, 1) := by decide +kernel
theorem dX1_changedAfter_3 : decode cX1_changedAfter 3 = .ok (.istore 4, 2) := by decide +kernel
theorem dX1_changedAfter_5 : decode cX1_changedAfter 5 = .ok (.iload 4, 2) := by decide +kernel
theorem dX1_changedAfter_7 : decode cX1_changedAfter 7 = .ok (.bipush 6, 2) := by decide +kernel
theorem dX1_changedAfter_9 : decode cX1_changedAfter 9 = .ok (.if_icmp .ge 28, 3) := by decide +kernel
theorem dX1_changedAfter_12 : decode cX1_changedAfter 12 = .ok (.aload_n 0, 1) := by decide +kernel
theorem dX1_changedAfter_13 : decode cX1_changedAfter 13 = .ok (.getfield 15, 3) := by decide +kernel
theorem dX1_changedAfter_16 : decode cX1_changedAfter 16 = .ok (.iload_n 1, 1) := by decide +kernel
theorem dX1_changedAfter_17 : decode cX1_changedAfter 17 = .ok (.bipush 6, 2) := by decide +kernel
theorem dX1_changedAfter_19 : decode cX1_changedAfter 19 = .ok (.imul, 1) := by decide +kernel
theorem dX1_changedAfter_20 : decode cX1_changedAfter 20 = .ok (.iload 4, 2) := by decide +kernel
theorem dX1_changedAfter_22 : decode cX1_changedAfter 22 = .ok (.iadd, 1) := by decide +kernel
theorem dX1_changedAfter_23 : decode cX1_changedAfter 23 = .ok (.iaload, 1) := by decide +kernel
theorem dX1_changedAfter_24 : decode cX1_changedAfter 24 = .ok (.iload_n 2, 1) := by decide +kernel
theorem dX1_changedAfter_25 : decode cX1_changedAfter 25 = .ok (.if_icmp .le 6, 3) := by decide +kernel
theorem dX1_changedAfter_28 : decode cX1_changedAfter 28 = .ok (.iinc 3 1, 3) := by decide +kernel
theorem dX1_changedAfter_31 : decode cX1_changedAfter 31 = .ok (.iinc 4 1, 3) := by decide +kernel
theorem dX1_changedAfter_34 : decode cX1_changedAfter 34 = .ok (.goto (-29), 3) := by decide +kernel
theorem dX1_changedAfter_37 : decode cX1_changedAfter 37 = .ok (.iload_n 3, 1) := by decide +kernel
theorem dX1_changedAfter_38 : decode cX1_changedAfter 38 = .ok (.ireturn, 1) := by decide +kernel
theorem dX1_match_0 : decode cX1_match 0 = .ok (.aload_n 0, 1) := by decide +kernel
theorem dX1_match_1 : decode cX1_match 1 = .ok (.getfield 9, 3) := by decide +kernel
theorem dX1_match_4 : decode cX1_match 4 = .ok (.iload_n 2, 1) := by decide +kernel
theorem dX1_match_5 : decode cX1_match 5 = .ok (.bipush 6, 2) := by decide +kernel
theorem dX1_match_7 : decode cX1_match 7 = .ok (.imul, 1) := by decide +kernel
theorem dX1_match_8 : decode cX1_match 8 = .ok (.iload_n 1, 1) := by decide +kernel
theorem dX1_match_9 : decode cX1_match 9 = .ok (.iadd, 1) := by decide +kernel
theorem dX1_match_10 : decode cX1_match 10 = .ok (.iaload, 1) := by decide +kernel
theorem dX1_match_11 : decode cX1_match 11 = .ok (.istore_n 3, 1) := by decide +kernel
theorem dX1_match_12 : decode cX1_match 12 = .ok (.iload_n 3, 1) := by decide +kernel
theorem dX1_match_13 : decode cX1_match 13 = .ok (.iconst 5, 1) := by decide +kernel
theorem dX1_match_14 : decode cX1_match 14 = .ok (.iand, 1) := by decide +kernel
theorem dX1_match_15 : decode cX1_match 15 = .ok (.iconst 1, 1) := by decide +kernel
theorem dX1_match_16 : decode cX1_match 16 = .ok (.ishl, 1) := by decide +kernel
theorem dX1_match_17 : decode cX1_match 17 = .ok (.iload_n 3, 1) := by decide +kernel
theorem dX1_match_18 : decode cX1_match 18 = .ok (.bipush 10, 2) := by decide +kernel
theorem dX1_match_20 : decode cX1_match 20 = .ok (.iand, 1) := by decide +kernel
theorem dX1_match_21 : decode cX1_match 21 = .ok (.iconst 1, 1) := by decide +kernel
theorem dX1_match_22 : decode cX1_match 22 = .ok (.ishr, 1) := by decide +kernel
theorem dX1_match_23 : decode cX1_match 23 = .ok (.ior, 1) := by decide +kernel
theorem dX1_match_24 : decode cX1_match 24 = .ok (.istore 4, 2) := by decide +kernel
theorem dX1_match_26 : decode cX1_match 26 = .ok (.aload_n 0, 1) := by decide +kernel
theorem dX1_match_27 : decode cX1_match 27 = .ok (.getfield 9, 3) := by decide +kernel
theorem dX1_match_30 : decode cX1_match 30 = .ok (.iload_n 1, 1) := by decide +kernel
theorem dX1_match_31 : decode cX1_match 31 = .ok (.bipush 6, 2) := by decide +kernel
theorem dX1_match_33 : decode cX1_match 33 = .ok (.imul, 1) := by decide +kernel
theorem dX1_match_34 : decode cX1_match 34 = .ok (.iload_n 2, 1) := by decide +kernel
theorem dX1_match_35 : decode cX1_match 35 = .ok (.iadd, 1) := by decide +kernel
theorem dX1_match_36 : decode cX1_match 36 = .ok (.iaload, 1) := by decide +kernel
theorem dX1_match_37 : decode cX1_match 37 = .ok (.iload 4, 2) := by decide +kernel
theorem dX1_match_39 : decode cX1_match 39 = .ok (.if_icmp .ne 7, 3) := by decide +kernel
theorem dX1_match_42 : decode cX1_match 42 = .ok (.iconst 1, 1) := by decide +kernel
theorem dX1_match_43 : decode cX1_match 43 = .ok (.goto 4, 3) := by decide +kernel
theorem dX1_match_46 : decode cX1_match 46 = .ok (.iconst 0, 1) := by decide +kernel
theorem dX1_match_47 : decode cX1_match 47 = .ok (.ireturn, 1) := by decide +kernel
set_option maxRecDepth 20000 in
theorem ggX1_matchingPairs_X1_match : GoodIn wsX1_matchingPairs wsX1_match := goodIn_r _ [5, 6, 7, 8, 9] (by decide +kernel) (by decide +kernel)
set_option maxRecDepth 20000 in
theorem gX1_matchingPairs_X1_match : GoodIn wsX1_matchingPairs (wsV RX1 27 RX1 yX1_match wsX1_match) := goodIn_app (goodIn_of _ (by decide +kernel)) ggX1_matchingPairs_X1_match
theorem dX1_matchingPairs_0 : decode cX1_matchingPairs 0 = .ok (.iconst 0, 1) := by decide +kernel
theorem dX1_matchingPairs_1 : decode cX1_matchingPairs 1 = .ok (.istore_n 1, 1) := by decide +kernel
theorem dX1_matchingPairs_2 : decode cX1_matchingPairs 2 = .ok (.iconst 0, 1) := by decide +kernel
theorem dX1_matchingPairs_3 : decode cX1_matchingPairs 3 = .ok (.istore_n 2, 1) := by decide +kernel
theorem dX1_matchingPairs_4 : decode cX1_matchingPairs 4 = .ok (.iload_n 2, 1) := by decide +kernel
theorem dX1_matchingPairs_5 : decode cX1_matchingPairs 5 = .ok (.bipush 6, 2) := by decide +kernel
theorem dX1_matchingPairs_7 : decode cX1_matchingPairs 7 = .ok (.if_icmp .ge 37, 3) := by decide +kernel
theorem dX1_matchingPairs_10 : decode cX1_matchingPairs 10 = .ok (.iload_n 2, 1) := by decide +kernel
theorem dX1_matchingPairs_11 : decode cX1_matchingPairs 11 = .ok (.iconst 1, 1) := by decide +kernel
theorem dX1_matchingPairs_12 : decode cX1_matchingPairs 12 = .ok (.iadd, 1) := by decide +kernel
theorem dX1_matchingPairs_13 : decode cX1_matchingPairs 13 = .ok (.istore_n 3, 1) := by decide +kernel
theorem dX1_matchingPairs_14 : decode cX1_matchingPairs 14 = .ok (.iload_n 3, 1) := by decide +kernel
theorem dX1_matchingPairs_15 : decode cX1_matchingPairs 15 = .ok (.bipush 6, 2) := by decide +kernel
theorem dX1_matchingPairs_17 : decode cX1_matchingPairs 17 = .ok (.if_icmp .ge 21, 3) := by decide +kernel
theorem dX1_matchingPairs_20 : decode cX1_matchingPairs 20 = .ok (.aload_n 0, 1) := by decide +kernel
theorem dX1_matchingPairs_21 : decode cX1_matchingPairs 21 = .ok (.iload_n 2, 1) := by decide +kernel
theorem dX1_matchingPairs_22 : decode cX1_matchingPairs 22 = .ok (.iload_n 3, 1) := by decide +kernel
theorem dX1_matchingPairs_23 : decode cX1_matchingPairs 23 = .ok (.invokevirtual 27, 3) := by decide +kernel
theorem dX1_matchingPairs_26 : decode cX1_matchingPairs 26 = .ok (.ifCond .eq 6, 3) := by decide +kernel
theorem dX1_matchingPairs_29 : decode cX1_matchingPairs 29 = .ok (.iinc 1 1, 3) := by decide +kernel
theorem dX1_matchingPairs_32 : decode cX1_matchingPairs 32 = .ok (.iinc 3 1, 3) := by decide +kernel
theorem dX1_matchingPairs_35 : decode cX1_matchingPairs 35 = .ok (.goto (-21), 3) := by decide +kernel
theorem dX1_matchingPairs_38 : decode cX1_matchingPairs 38 = .ok (.iinc 2 1, 3) := by decide +kernel
theorem dX1_matchingPairs_41 : decode cX1_matchingPairs 41 = .ok (.goto (-37), 3) := by decide +kernel
theorem dX1_matchingPairs_44 : decode cX1_matchingPairs 44 = .ok (.iload_n 1, 1) := by decide +kernel
theorem dX1_matchingPairs_45 : decode cX1_matchingPairs 45 = .ok (.ireturn, 1) := by decide +kernel
theorem dX2_init_0 : decode cX2_init 0 = .ok (.aload_n 0, 1) := by decide +kernel
theorem dX2_init_1 : decode cX2_init 1 = .ok (.invokespecial 3, 3) := by decide +kernel
theorem dX2_init_4 : decode cX2_init 4 = .ok (.aload_n 0, 1) := by decide +kernel
theorem dX2_init_5 : decode cX2_init 5 = .ok (.bipush 100, 2) := by decide +kernel
theorem dX2_init_7 : decode cX2_init 7 = .ok (.newarray .byte, 2) := by decide +kernel
theorem dX2_init_9 : decode cX2_init 9 = .ok (.putfield 9, 3) := by decide +kernel
theorem dX2_init_12 : decode cX2_init 12 = .ok (.return_, 1) := by decide +kernel
theorem dX2_add_0 : decode cX2_add 0 = .ok (.aload_n 0, 1) := by decide +kernel
theorem dX2_add_1 : decode cX2_add 1 = .ok (.getfield 9, 3) := by decide +kernel
theorem dX2_add_4 : decode cX2_add 4 = .ok (.aload_n 0, 1) := by decide +kernel
theorem dX2_add_5 : decode cX2_add 5 = .ok (.getfield 15, 3) := by decide +kernel
theorem dX2_add_8 : decode cX2_add 8 = .ok (.iload_n 1, 1) := by decide +kernel
theorem dX2_add_9 : decode cX2_add 9 = .ok (.bastore, 1) := by decide +kernel
theorem dX2_add_10 : decode cX2_add 10 = .ok (.aload_n 0, 1) := by decide +kernel
theorem dX2_add_11 : decode cX2_add 11 = .ok (.dup, 1) := by decide +kernel
theorem dX2_add_12 : decode cX2_add 12 = .ok (.getfield 15, 3) := by decide +kernel
theorem dX2_add_15 : decode cX2_add 15 = .ok (.iconst 1, 1) := by decide +kernel
theorem dX2_add_16 : decode cX2_add 16 = .ok (.iadd, 1) := by decide +kernel
theorem dX2_add_17 : decode cX2_add 17 = .ok (.putfield 15, 3) := by decide +kernel
theorem dX2_add_20 : decode cX2_add 20 = .ok (.aload_n 0, 1) := by decide +kernel
theorem dX2_add_21 : decode cX2_add 21 = .ok (.getfield 15, 3) := by decide +kernel
theorem dX2_add_24 : decode cX2_add 24 = .ok (.ireturn, 1) := by decide +kernel
theorem dX3_init_0 : decode cX3_init 0 = .ok (.aload_n 0, 1) := by decide +kernel
theorem dX3_init_1 : decode cX3_init 1 = .ok (.invokespecial 3, 3) := by decide +kernel
theorem dX3_init_4 : decode cX3_init 4 = .ok (.aload_n 0, 1) := by decide +kernel
theorem dX3_init_5 : decode cX3_init 5 = .ok (.bipush 18, 2) := by decide +kernel
theorem dX3_init_7 : decode cX3_init 7 = .ok (.newarray .int, 2) := by decide +kernel
theorem dX3_init_9 : decode cX3_init 9 = .ok (.putfield 9, 3) := by decide +kernel
theorem dX3_init_12 : decode cX3_init 12 = .ok (.aload_n 0, 1) := by decide +kernel
theorem dX3_init_13 : decode cX3_init 13 = .ok (.bipush 18, 2) := by decide +kernel
theorem dX3_init_15 : decode cX3_init 15 = .ok (.newarray .int, 2) := by decide +kernel
theorem dX3_init_17 : decode cX3_init 17 = .ok (.putfield 15, 3) := by decide +kernel
theorem dX3_init_20 : decode cX3_init 20 = .ok (.aload_n 0, 1) := by decide +kernel
theorem dX3_init_21 : decode cX3_init 21 = .ok (.bipush 18, 2) := by decide +kernel
theorem dX3_init_23 : decode cX3_init 23 = .ok (.newarray .int, 2) := by decide +kernel
theorem dX3_init_25 : decode cX3_init 25 = .ok (.putfield 18, 3) := by decide +kernel
theorem dX3_init_28 : decode cX3_init 28 = .ok (.return_, 1) := by decide +kernel
theorem dX3_copyFrom_0 : decode cX3_copyFrom 0 = .ok (.aload_n 1, 1) := by decide +kernel
theorem dX3_copyFrom_1 : decode cX3_copyFrom 1 = .ok (.getfield 9, 3) := by decide +kernel
theorem dX3_copyFrom_4 : decode cX3_copyFrom 4 = .ok (.iconst 0, 1) := by decide +kernel
theorem dX3_copyFrom_5 : decode cX3_copyFrom 5 = .ok (.aload_n 0, 1) := by decide +kernel
theorem dX3_copyFrom_6 : decode cX3_copyFrom 6 = .ok (.getfield 9, 3) := by decide +kernel
theorem dX3_copyFrom_9 : decode cX3_copyFrom 9 = .ok (.iconst 0, 1) := by decide +kernel
theorem dX3_copyFrom_10 : decode cX3_copyFrom 10 = .ok (.bipush 18, 2) := by decide +kernel
theorem dX3_copyFrom_12 : decode cX3_copyFrom 12 = .ok (.invokestatic 21, 3) := by decide +kernel
theorem dX3_copyFrom_15 : decode cX3_copyFrom 15 = .ok (.aload_n 1, 1) := by decide +kernel
theorem dX3_copyFrom_16 : decode cX3_copyFrom 16 = .ok (.getfield 15, 3) := by decide +kernel
theorem dX3_copyFrom_19 : decode cX3_copyFrom 19 = .ok (.iconst 0, 1) := by decide +kernel
theorem dX3_copyFrom_20 : decode cX3_copyFrom 20 = .ok (.aload_n 0, 1) := by decide +kernel
theorem dX3_copyFrom_21 : decode cX3_copyFrom 21 = .ok (.getfield 15, 3) := by decide +kernel
theorem dX3_copyFrom_24 : decode cX3_copyFrom 24 = .ok (.iconst 0, 1) := by decide +kernel
theorem dX3_copyFrom_25 : decode cX3_copyFrom 25 = .ok (.bipush 18, 2) := by decide +kernel
theorem dX3_copyFrom_27 : decode cX3_copyFrom 27 = .ok (.invokestatic 21, 3) := by decide +kernel
theorem dX3_copyFrom_30 : decode cX3_copyFrom 30 = .ok (.aload_n 1, 1) := by decide +kernel
theorem dX3_copyFrom_31 : decode cX3_copyFrom 31 = .ok (.getfield 18, 3) := by decide +kernel
theorem dX3_copyFrom_34 : decode cX3_copyFrom 34 = .ok (.iconst 0, 1) := by decide +kernel
theorem dX3_copyFrom_35 : decode cX3_copyFrom 35 = .ok (.aload_n 0, 1) := by decide +kernel
theorem dX3_copyFrom_36 : decode cX3_copyFrom 36 = .ok (.getfield 18, 3) := by decide +kernel
theorem dX3_copyFrom_39 : decode cX3_copyFrom 39 = .ok (.iconst 0, 1) := by decide +kernel
theorem dX3_copyFrom_40 : decode cX3_copyFrom 40 = .ok (.bipush 18, 2) := by decide +kernel
theorem dX3_copyFrom_42 : decode cX3_copyFrom 42 = .ok (.invokestatic 21, 3) := by decide +kernel
theorem dX3_copyFrom_45 : decode cX3_copyFrom 45 = .ok (.return_, 1) := by decide +kernel
theorem dX3_isOn_0 : decode cX3_isOn 0 = .ok (.aload_n 0, 1) := by decide +kernel
theorem dX3_isOn_1 : decode cX3_isOn 1 = .ok (.getfield 9, 3) := by decide +kernel
theorem dX3_isOn_4 : decode cX3_isOn 4 = .ok (.iload_n 1, 1) := by decide +kernel
theorem dX3_isOn_5 : decode cX3_isOn 5 = .ok (.iconst 3, 1) := by decide +kernel
theorem dX3_isOn_6 : decode cX3_isOn 6 = .ok (.imul, 1) := by decide +kernel
theorem dX3_isOn_7 : decode cX3_isOn 7 = .ok (.iload_n 2, 1) := by decide +kernel
theorem dX3_isOn_8 : decode cX3_isOn 8 = .ok (.iadd, 1) := by decide +kernel
theorem dX3_isOn_9 : decode cX3_isOn 9 = .ok (.iaload, 1) := by decide +kernel
theorem dX3_isOn_10 : decode cX3_isOn 10 = .ok (.iconst 1, 1) := by decide +kernel
theorem dX3_isOn_11 : decode cX3_isOn 11 = .ok (.if_icmp .ne 7, 3) := by decide +kernel
theorem dX3_isOn_14 : decode cX3_isOn 14 = .ok (.iconst 1, 1) := by decide +kernel
theorem dX3_isOn_15 : decode cX3_isOn 15 = .ok (.goto 4, 3) := by decide +kernel
theorem dX3_isOn_18 : decode cX3_isOn 18 = .ok (.iconst 0, 1) := by decide +kernel
theorem dX3_isOn_19 : decode cX3_isOn 19 = .ok (.ireturn, 1) := by decide +kernel
theorem dX3_moodOf_0 : decode cX3_moodOf 0 = .ok (.aload_n 0, 1) := by decide +kernel
theorem dX3_moodOf_1 : decode cX3_moodOf 1 = .ok (.getfield 18, 3) := by decide +kernel
theorem dX3_moodOf_4 : decode cX3_moodOf 4 = .ok (.iload_n 1, 1) := by decide +kernel
theorem dX3_moodOf_5 : decode cX3_moodOf 5 = .ok (.iconst 3, 1) := by decide +kernel
theorem dX3_moodOf_6 : decode cX3_moodOf 6 = .ok (.imul, 1) := by decide +kernel
theorem dX3_moodOf_7 : decode cX3_moodOf 7 = .ok (.iload_n 2, 1) := by decide +kernel
theorem dX3_moodOf_8 : decode cX3_moodOf 8 = .ok (.iadd, 1) := by decide +kernel
theorem dX3_moodOf_9 : decode cX3_moodOf 9 = .ok (.iaload, 1) := by decide +kernel
theorem dX3_moodOf_10 : decode cX3_moodOf 10 = .ok (.ireturn, 1) := by decide +kernel
theorem dX3_onCount_0 : decode cX3_onCount 0 = .ok (.iconst 0, 1) := by decide +kernel
theorem dX3_onCount_1 : decode cX3_onCount 1 = .ok (.istore_n 2, 1) := by decide +kernel
theorem dX3_onCount_2 : decode cX3_onCount 2 = .ok (.iconst 0, 1) := by decide +kernel
theorem dX3_onCount_3 : decode cX3_onCount 3 = .ok (.istore_n 3, 1) := by decide +kernel
theorem dX3_onCount_4 : decode cX3_onCount 4 = .ok (.iload_n 3, 1) := by decide +kernel
theorem dX3_onCount_5 : decode cX3_onCount 5 = .ok (.iconst 3, 1) := by decide +kernel
theorem dX3_onCount_6 : decode cX3_onCount 6 = .ok (.if_icmp .ge 22, 3) := by decide +kernel
theorem dX3_onCount_9 : decode cX3_onCount 9 = .ok (.iload_n 2, 1) := by decide +kernel
theorem dX3_onCount_10 : decode cX3_onCount 10 = .ok (.aload_n 0, 1) := by decide +kernel
theorem dX3_onCount_11 : decode cX3_onCount 11 = .ok (.getfield 9, 3) := by decide +kernel
theorem dX3_onCount_14 : decode cX3_onCount 14 = .ok (.iload_n 1, 1) := by decide +kernel
theorem dX3_onCount_15 : decode cX3_onCount 15 = .ok (.iconst 3, 1) := by decide +kernel
theorem dX3_onCount_16 : decode cX3_onCount 16 = .ok (.imul, 1) := by decide +kernel
theorem dX3_onCount_17 : decode cX3_onCount 17 = .ok (.iload_n 3, 1) := by decide +kernel
theorem dX3_onCount_18 : decode cX3_onCount 18 = .ok (.iadd, 1) := by decide +kernel
theorem dX3_onCount_19 : decode cX3_onCount 19 = .ok (.iaload, 1) := by decide +kernel
theorem dX3_onCount_20 : decode cX3_onCount 20 = .ok (.iadd, 1) := by decide +kernel
theorem dX3_onCount_21 : decode cX3_onCount 21 = .ok (.istore_n 2, 1) := by decide +kernel
theorem dX3_onCount_22 : decode cX3_onCount 22 = .ok (.iinc 3 1, 3) := by decide +kernel
theorem dX3_onCount_25 : decode cX3_onCount 25 = .ok (.goto (-21), 3) := by decide +kernel
theorem dX3_onCount_28 : decode cX3_onCount 28 = .ok (.iload_n 2, 1) := by decide +kernel
theorem dX3_onCount_29 : decode cX3_onCount 29 = .ok (.ireturn, 1) := by decide +kernel
set_option maxRecDepth 20000 in
theorem ggX3_isThere_X3_onCount : GoodIn wsX3_isThere wsX3_onCount := goodIn_r _ [5, 6, 7, 8, 9] (by decide +kernel) (by decide +kernel)
set_option maxRecDepth 20000 in
theorem gX3_isThere_X3_onCount : GoodIn wsX3_isThere (wsV RX3 27 RX3 yX3_onCount wsX3_onCount) := goodIn_app (goodIn_of _ (by decide +kernel)) ggX3_isThere_X3_onCount
theorem dX3_isThere_0 : decode cX3_isThere 0 = .ok (.aload_n 0, 1) := by decide +kernel
theorem dX3_isThere_1 : decode cX3_isThere 1 = .ok (.iload_n 1, 1) := by decide +kernel
theorem dX3_isThere_2 : decode cX3_isThere 2 = .ok (.invokevirtual 27, 3) := by decide +kernel
theorem dX3_isThere_5 : decode cX3_isThere 5 = .ok (.ifCond .le 7, 3) := by decide +kernel
theorem dX3_isThere_8 : decode cX3_isThere 8 = .ok (.iconst 1, 1) := by decide +kernel
theorem dX3_isThere_9 : decode cX3_isThere 9 = .ok (.goto 4, 3) := by decide +kernel
theorem dX3_isThere_12 : decode cX3_isThere 12 = .ok (.iconst 0, 1) := by decide +kernel
theorem dX3_isThere_13 : decode cX3_isThere 13 = .ok (.ireturn, 1) := by decide +kernel
theorem dX3_set_0 : decode cX3_set 0 = .ok (.iload_n 1, 1) := by decide +kernel
theorem dX3_set_1 : decode cX3_set 1 = .ok (.iconst 3, 1) := by decide +kernel
theorem dX3_set_2 : decode cX3_set 2 = .ok (.imul, 1) := by decide +kernel
theorem dX3_set_3 : decode cX3_set 3 = .ok (.iload_n 2, 1) := by decide +kernel
theorem dX3_set_4 : decode cX3_set 4 = .ok (.iadd, 1) := by decide +kernel
theorem dX3_set_5 : decode cX3_set 5 = .ok (.istore 5, 2) := by decide +kernel
theorem dX3_set_7 : decode cX3_set 7 = .ok (.aload_n 0, 1) := by decide +kernel
theorem dX3_set_8 : decode cX3_set 8 = .ok (.getfield 9, 3) := by decide +kernel
theorem dX3_set_11 : decode cX3_set 11 = .ok (.iload 5, 2) := by decide +kernel
theorem dX3_set_13 : decode cX3_set 13 = .ok (.iconst 1, 1) := by decide +kernel
theorem dX3_set_14 : decode cX3_set 14 = .ok (.iastore, 1) := by decide +kernel
theorem dX3_set_15 : decode cX3_set 15 = .ok (.aload_n 0, 1) := by decide +kernel
theorem dX3_set_16 : decode cX3_set 16 = .ok (.getfield 15, 3) := by decide +kernel
theorem dX3_set_19 : decode cX3_set 19 = .ok (.iload 5, 2) := by decide +kernel
theorem dX3_set_21 : decode cX3_set 21 = .ok (.iload_n 3, 1) := by decide +kernel
theorem dX3_set_22 : decode cX3_set 22 = .ok (.iastore, 1) := by decide +kernel
theorem dX3_set_23 : decode cX3_set 23 = .ok (.aload_n 0, 1) := by decide +kernel
theorem dX3_set_24 : decode cX3_set 24 = .ok (.getfield 18, 3) := by decide +kernel
theorem dX3_set_27 : decode cX3_set 27 = .ok (.iload 5, 2) := by decide +kernel
theorem dX3_set_29 : decode cX3_set 29 = .ok (.iload 4, 2) := by decide +kernel
theorem dX3_set_31 : decode cX3_set 31 = .ok (.iastore, 1) := by decide +kernel
theorem dX3_set_32 : decode cX3_set 32 = .ok (.return_, 1) := by decide +kernel
theorem dX3_clear_0 : decode cX3_clear 0 = .ok (.aload_n 0, 1) := by decide +kernel
theorem dX3_clear_1 : decode cX3_clear 1 = .ok (.getfield 9, 3) := by decide +kernel
theorem dX3_clear_4 : decode cX3_clear 4 = .ok (.iload_n 1, 1) := by decide +kernel
theorem dX3_clear_5 : decode cX3_clear 5 = .ok (.iconst 3, 1) := by decide +kernel
theorem dX3_clear_6 : decode cX3_clear 6 = .ok (.imul, 1) := by decide +kernel
theorem dX3_clear_7 : decode cX3_clear 7 = .ok (.iload_n 2, 1) := by decide +kernel
theorem dX3_clear_8 : decode cX3_clear 8 = .ok (.iadd, 1) := by decide +kernel
theorem dX3_clear_9 : decode cX3_clear 9 = .ok (.iconst 0, 1) := by decide +kernel
theorem dX3_clear_10 : decode cX3_clear 10 = .ok (.iastore, 1) := by decide +kernel
theorem dX3_clear_11 : decode cX3_clear 11 = .ok (.return_, 1) := by decide +kernel
set_option maxRecDepth 20000 in
theorem ggX3_best_X3_isOn : GoodIn wsX3_best wsX3_isOn := goodIn_r _ [6, 7, 8, 9, 10] (by decide +kernel) (by decide +kernel)
set_option maxRecDepth 20000 in
theorem gX3_best_X3_isOn : GoodIn wsX3_best (wsV RX3 31 RX3 yX3_isOn wsX3_isOn) := goodIn_app (goodIn_of _ (by decide +kernel)) ggX3_best_X3_isOn
theorem dX3_best_0 : decode cX3_best 0 = .ok (.iconst (-1), 1) := by decide +kernel
theorem dX3_best_1 : decode cX3_best 1 = .ok (.istore_n 2, 1) := by decide +kernel
theorem dX3_best_2 : decode cX3_best 2 = .ok (.iconst (-1), 1) := by decide +kernel
theorem dX3_best_3 : decode cX3_best 3 = .ok (.istore_n 3, 1) := by decide +kernel
theorem dX3_best_4 : decode cX3_best 4 = .ok (.iconst 0, 1) := by decide +kernel
theorem dX3_best_5 : decode cX3_best 5 = .ok (.istore 4, 2) := by decide +kernel
theorem dX3_best_7 : decode cX3_best 7 = .ok (.iload 4, 2) := by decide +kernel
theorem dX3_best_9 : decode cX3_best 9 = .ok (.iconst 3, 1) := by decide +kernel
theorem dX3_best_10 : decode cX3_best 10 = .ok (.if_icmp .ge 44, 3) := by decide +kernel
theorem dX3_best_13 : decode cX3_best 13 = .ok (.aload_n 0, 1) := by decide +kernel
theorem dX3_best_14 : decode cX3_best 14 = .ok (.getfield 15, 3) := by decide +kernel
theorem dX3_best_17 : decode cX3_best 17 = .ok (.iload_n 1, 1) := by decide +kernel
theorem dX3_best_18 : decode cX3_best 18 = .ok (.iconst 3, 1) := by decide +kernel
theorem dX3_best_19 : decode cX3_best 19 = .ok (.imul, 1) := by decide +kernel
theorem dX3_best_20 : decode cX3_best 20 = .ok (.iload 4, 2) := by decide +kernel
theorem dX3_best_22 : decode cX3_best 22 = .ok (.iadd, 1) := by decide +kernel
theorem dX3_best_23 : decode cX3_best 23 = .ok (.iaload, 1) := by decide +kernel
theorem dX3_best_24 : decode cX3_best 24 = .ok (.istore 5, 2) := by decide +kernel
theorem dX3_best_26 : decode cX3_best 26 = .ok (.aload_n 0, 1) := by decide +kernel
theorem dX3_best_27 : decode cX3_best 27 = .ok (.iload_n 1, 1) := by decide +kernel
theorem dX3_best_28 : decode cX3_best 28 = .ok (.iload 4, 2) := by decide +kernel
theorem dX3_best_30 : decode cX3_best 30 = .ok (.invokevirtual 31, 3) := by decide +kernel
theorem dX3_best_33 : decode cX3_best 33 = .ok (.ifCond .eq 15, 3) := by decide +kernel
theorem dX3_best_36 : decode cX3_best 36 = .ok (.iload 5, 2) := by decide +kernel
theorem dX3_best_38 : decode cX3_best 38 = .ok (.iload_n 3, 1) := by decide +kernel
theorem dX3_best_39 : decode cX3_best 39 = .ok (.if_icmp .le 9, 3) := by decide +kernel
theorem dX3_best_42 : decode cX3_best 42 = .ok (.iload 4, 2) := by decide +kernel
theorem dX3_best_44 : decode cX3_best 44 = .ok (.istore_n 2, 1) := by decide +kernel
theorem dX3_best_45 : decode cX3_best 45 = .ok (.iload 5, 2) := by decide +kernel
theorem dX3_best_47 : decode cX3_best 47 = .ok (.istore_n 3, 1) := by decide +kernel
theorem dX3_best_48 : decode cX3_best 48 = .ok (.iinc 4 1, 3) := by decide +kernel
theorem dX3_best_51 : decode cX3_best 51 = .ok (.goto (-44), 3) := by decide +kernel
theorem dX3_best_54 : decode cX3_best 54 = .ok (.iload_n 2, 1) := by decide +kernel
theorem dX3_best_55 : decode cX3_best 55 = .ok (.ireturn, 1) := by decide +kernel
theorem dX3_value_0 : decode cX3_value 0 = .ok (.iload_n 1, 1) := by decide +kernel
theorem dX3_value_1 : decode cX3_value 1 = .ok (.iconst 3, 1) := by decide +kernel
theorem dX3_value_2 : decode cX3_value 2 = .ok (.imul, 1) := by decide +kernel
theorem dX3_value_3 : decode cX3_value 3 = .ok (.iload_n 2, 1) := by decide +kernel
theorem dX3_value_4 : decode cX3_value 4 = .ok (.iadd, 1) := by decide +kernel
theorem dX3_value_5 : decode cX3_value 5 = .ok (.istore 4, 2) := by decide +kernel
theorem dX3_value_7 : decode cX3_value 7 = .ok (.iload_n 3, 1) := by decide +kernel
theorem dX3_value_8 : decode cX3_value 8 = .ok (.lookupswitch 44 #[(0, 28), (1, 36)], 28) := by decide +kernel
theorem dX3_value_36 : decode cX3_value 36 = .ok (.aload_n 0, 1) := by decide +kernel
theorem dX3_value_37 : decode cX3_value 37 = .ok (.getfield 9, 3) := by decide +kernel
theorem dX3_value_40 : decode cX3_value 40 = .ok (.iload 4, 2) := by decide +kernel
theorem dX3_value_42 : decode cX3_value 42 = .ok (.iaload, 1) := by decide +kernel
theorem dX3_value_43 : decode cX3_value 43 = .ok (.ireturn, 1) := by decide +kernel
theorem dX3_value_44 : decode cX3_value 44 = .ok (.aload_n 0, 1) := by decide +kernel
theorem dX3_value_45 : decode cX3_value 45 = .ok (.getfield 15, 3) := by decide +kernel
theorem dX3_value_48 : decode cX3_value 48 = .ok (.iload 4, 2) := by decide +kernel
theorem dX3_value_50 : decode cX3_value 50 = .ok (.iaload, 1) := by decide +kernel
theorem dX3_value_51 : decode cX3_value 51 = .ok (.ireturn, 1) := by decide +kernel
theorem dX3_value_52 : decode cX3_value 52 = .ok (.aload_n 0, 1) := by decide +kernel
theorem dX3_value_53 : decode cX3_value 53 = .ok (.getfield 18, 3) := by decide +kernel
theorem dX3_value_56 : decode cX3_value 56 = .ok (.iload 4, 2) := by decide +kernel
theorem dX3_value_58 : decode cX3_value 58 = .ok (.iaload, 1) := by decide +kernel
theorem dX3_value_59 : decode cX3_value 59 = .ok (.ireturn, 1) := by decide +kernel
set_option maxRecDepth 20000 in
theorem ggX4_init_J7_fill_53178 : GoodIn wsX4_init wsJ7_fill_53178 := goodIn_r _ [9] (by decide +kernel) (by decide +kernel)
set_option maxRecDepth 20000 in
theorem gX4_init_J7_fill_53178 : GoodIn wsX4_init (va_wsS RX4 15 yJ7_fill_53178 wsJ7_fill_53178) := goodIn_app (goodIn_of _ (by decide +kernel)) ggX4_init_J7_fill_53178
theorem dX4_init_0 : decode cX4_init 0 = .ok (.aload_n 0, 1) := by decide +kernel
theorem dX4_init_1 : decode cX4_init 1 = .ok (.invokespecial 3, 3) := by decide +kernel
theorem dX4_init_4 : decode cX4_init 4 = .ok (.aload_n 0, 1) := by decide +kernel
theorem dX4_init_5 : decode cX4_init 5 = .ok (.bipush 108, 2) := by decide +kernel
theorem dX4_init_7 : decode cX4_init 7 = .ok (.newarray .int, 2) := by decide +kernel
theorem dX4_init_9 : decode cX4_init 9 = .ok (.putfield 9, 3) := by decide +kernel
theorem dX4_init_12 : decode cX4_init 12 = .ok (.aload_n 0, 1) := by decide +kernel
theorem dX4_init_13 : decode cX4_init 13 = .ok (.getfield 9, 3) := by decide +kernel
theorem dX4_init_16 : decode cX4_init 16 = .ok (.iconst (-1), 1) := by decide +kernel
theorem dX4_init_17 : decode cX4_init 17 = .ok (.invokestatic 15, 3) := by decide +kernel
theorem dX4_init_20 : decode cX4_init 20 = .ok (.return_, 1) := by decide +kernel
theorem dX4_copyFrom_0 : decode cX4_copyFrom 0 = .ok (.aload_n 1, 1) := by decide +kernel
theorem dX4_copyFrom_1 : decode cX4_copyFrom 1 = .ok (.getfield 9, 3) := by decide +kernel
theorem dX4_copyFrom_4 : decode cX4_copyFrom 4 = .ok (.iconst 0, 1) := by decide +kernel
theorem dX4_copyFrom_5 : decode cX4_copyFrom 5 = .ok (.aload_n 0, 1) := by decide +kernel
theorem dX4_copyFrom_6 : decode cX4_copyFrom 6 = .ok (.getfield 9, 3) := by decide +kernel
theorem dX4_copyFrom_9 : decode cX4_copyFrom 9 = .ok (.iconst 0, 1) := by decide +kernel
theorem dX4_copyFrom_10 : decode cX4_copyFrom 10 = .ok (.bipush 108, 2) := by decide +kernel
theorem dX4_copyFrom_12 : decode cX4_copyFrom 12 = .ok (.invokestatic 21, 3) := by decide +kernel
theorem dX4_copyFrom_15 : decode cX4_copyFrom 15 = .ok (.return_, 1) := by decide +kernel
theorem dX4_mood_0 : decode cX4_mood 0 = .ok (.aload_n 0, 1) := by decide +kernel
theorem dX4_mood_1 : decode cX4_mood 1 = .ok (.getfield 9, 3) := by decide +kernel
theorem dX4_mood_4 : decode cX4_mood 4 = .ok (.iload_n 1, 1) := by decide +kernel
theorem dX4_mood_5 : decode cX4_mood 5 = .ok (.bipush 6, 2) := by decide +kernel
theorem dX4_mood_7 : decode cX4_mood 7 = .ok (.imul, 1) := by decide +kernel
theorem dX4_mood_8 : decode cX4_mood 8 = .ok (.iload_n 2, 1) := by decide +kernel
theorem dX4_mood_9 : decode cX4_mood 9 = .ok (.iadd, 1) := by decide +kernel
theorem dX4_mood_10 : decode cX4_mood 10 = .ok (.iconst 3, 1) := by decide +kernel
theorem dX4_mood_11 : decode cX4_mood 11 = .ok (.imul, 1) := by decide +kernel
theorem dX4_mood_12 : decode cX4_mood 12 = .ok (.iload_n 3, 1) := by decide +kernel
theorem dX4_mood_13 : decode cX4_mood 13 = .ok (.iadd, 1) := by decide +kernel
theorem dX4_mood_14 : decode cX4_mood 14 = .ok (.iaload, 1) := by decide +kernel
theorem dX4_mood_15 : decode cX4_mood 15 = .ok (.ireturn, 1) := by decide +kernel
theorem dX4_set_0 : decode cX4_set 0 = .ok (.iload_n 3, 1) := by decide +kernel
theorem dX4_set_1 : decode cX4_set 1 = .ok (.ifCond .lt 25, 3) := by decide +kernel
theorem dX4_set_4 : decode cX4_set 4 = .ok (.iload_n 3, 1) := by decide +kernel
theorem dX4_set_5 : decode cX4_set 5 = .ok (.iconst 3, 1) := by decide +kernel
theorem dX4_set_6 : decode cX4_set 6 = .ok (.if_icmp .ge 20, 3) := by decide +kernel
theorem dX4_set_9 : decode cX4_set 9 = .ok (.aload_n 0, 1) := by decide +kernel
theorem dX4_set_10 : decode cX4_set 10 = .ok (.getfield 9, 3) := by decide +kernel
theorem dX4_set_13 : decode cX4_set 13 = .ok (.iload_n 1, 1) := by decide +kernel
theorem dX4_set_14 : decode cX4_set 14 = .ok (.bipush 6, 2) := by decide +kernel
theorem dX4_set_16 : decode cX4_set 16 = .ok (.imul, 1) := by decide +kernel
theorem dX4_set_17 : decode cX4_set 17 = .ok (.iload_n 2, 1) := by decide +kernel
theorem dX4_set_18 : decode cX4_set 18 = .ok (.iadd, 1) := by decide +kernel
theorem dX4_set_19 : decode cX4_set 19 = .ok (.iconst 3, 1) := by decide +kernel
theorem dX4_set_20 : decode cX4_set 20 = .ok (.imul, 1) := by decide +kernel
theorem dX4_set_21 : decode cX4_set 21 = .ok (.iload_n 3, 1) := by decide +kernel
theorem dX4_set_22 : decode cX4_set 22 = .ok (.iadd, 1) := by decide +kernel
theorem dX4_set_23 : decode cX4_set 23 = .ok (.iload 4, 2) := by decide +kernel
theorem dX4_set_25 : decode cX4_set 25 = .ok (.iastore, 1) := by decide +kernel
theorem dX4_set_26 : decode cX4_set 26 = .ok (.return_, 1) := by decide +kernel
theorem dX4_forget_0 : decode cX4_forget 0 = .ok (.iconst 0, 1) := by decide +kernel
theorem dX4_forget_1 : decode cX4_forget 1 = .ok (.istore_n 3, 1) := by decide +kernel
theorem dX4_forget_2 : decode cX4_forget 2 = .ok (.iload_n 3, 1) := by decide +kernel
theorem dX4_forget_3 : decode cX4_forget 3 = .ok (.iconst 3, 1) := by decide +kernel
theorem dX4_forget_4 : decode cX4_forget 4 = .ok (.if_icmp .ge 25, 3) := by decide +kernel
theorem dX4_forget_7 : decode cX4_forget 7 = .ok (.aload_n 0, 1) := by decide +kernel
theorem dX4_forget_8 : decode cX4_forget 8 = .ok (.getfield 9, 3) := by decide +kernel
theorem dX4_forget_11 : decode cX4_forget 11 = .ok (.iload_n 1, 1) := by decide +kernel
theorem dX4_forget_12 : decode cX4_forget 12 = .ok (.bipush 6, 2) := by decide +kernel
theorem dX4_forget_14 : decode cX4_forget 14 = .ok (.imul, 1) := by decide +kernel
theorem dX4_forget_15 : decode cX4_forget 15 = .ok (.iload_n 2, 1) := by decide +kernel
theorem dX4_forget_16 : decode cX4_forget 16 = .ok (.iadd, 1) := by decide +kernel
theorem dX4_forget_17 : decode cX4_forget 17 = .ok (.iconst 3, 1) := by decide +kernel
theorem dX4_forget_18 : decode cX4_forget 18 = .ok (.imul, 1) := by decide +kernel
theorem dX4_forget_19 : decode cX4_forget 19 = .ok (.iload_n 3, 1) := by decide +kernel
theorem dX4_forget_20 : decode cX4_forget 20 = .ok (.iadd, 1) := by decide +kernel
theorem dX4_forget_21 : decode cX4_forget 21 = .ok (.iconst (-1), 1) := by decide +kernel
theorem dX4_forget_22 : decode cX4_forget 22 = .ok (.iastore, 1) := by decide +kernel
theorem dX4_forget_23 : decode cX4_forget 23 = .ok (.iinc 3 1, 3) := by decide +kernel
theorem dX4_forget_26 : decode cX4_forget 26 = .ok (.goto (-24), 3) := by decide +kernel
theorem dX4_forget_29 : decode cX4_forget 29 = .ok (.return_, 1) := by decide +kernel
set_option maxRecDepth 20000 in
theorem ggX4_forgetAll_X4_forget : GoodIn wsX4_forgetAll wsX4_forget := goodIn_r _ [5, 6, 7] (by decide +kernel) (by decide +kernel)
set_option maxRecDepth 20000 in
theorem gX4_forgetAll_X4_forget : GoodIn wsX4_forgetAll (wsV RX4 27 RX4 yX4_forget wsX4_forget) := goodIn_app (goodIn_of _ (by decide +kernel)) ggX4_forgetAll_X4_forget
theorem dX4_forgetAll_0 : decode cX4_forgetAll 0 = .ok (.iconst 0, 1) := by decide +kernel
theorem dX4_forgetAll_1 : decode cX4_forgetAll 1 = .ok (.istore_n 2, 1) := by decide +kernel
theorem dX4_forgetAll_2 : decode cX4_forgetAll 2 = .ok (.iload_n 2, 1) := by decide +kernel
theorem dX4_forgetAll_3 : decode cX4_forgetAll 3 = .ok (.bipush 6, 2) := by decide +kernel
theorem dX4_forgetAll_5 : decode cX4_forgetAll 5 = .ok (.if_icmp .ge 15, 3) := by decide +kernel
theorem dX4_forgetAll_8 : decode cX4_forgetAll 8 = .ok (.aload_n 0, 1) := by decide +kernel
theorem dX4_forgetAll_9 : decode cX4_forgetAll 9 = .ok (.iload_n 1, 1) := by decide +kernel
theorem dX4_forgetAll_10 : decode cX4_forgetAll 10 = .ok (.iload_n 2, 1) := by decide +kernel
theorem dX4_forgetAll_11 : decode cX4_forgetAll 11 = .ok (.invokevirtual 27, 3) := by decide +kernel
theorem dX4_forgetAll_14 : decode cX4_forgetAll 14 = .ok (.iinc 2 1, 3) := by decide +kernel
theorem dX4_forgetAll_17 : decode cX4_forgetAll 17 = .ok (.goto (-15), 3) := by decide +kernel
theorem dX4_forgetAll_20 : decode cX4_forgetAll 20 = .ok (.return_, 1) := by decide +kernel
set_option maxRecDepth 20000 in
theorem ggX4_seeingPairs_X4_hasView : GoodIn wsX4_seeingPairs wsX4_hasView := goodIn_r _ [5, 6, 7, 8, 4, 9, 10, 11] (by decide +kernel) (by decide +kernel)
set_option maxRecDepth 20000 in
theorem gX4_seeingPairs_X4_hasView : GoodIn wsX4_seeingPairs (wsV RX4 31 RX4 yX4_hasView wsX4_hasView) := goodIn_app (goodIn_of _ (by decide +kernel)) ggX4_seeingPairs_X4_hasView
theorem dX4_seeingPairs_0 : decode cX4_seeingPairs 0 = .ok (.iconst 0, 1) := by decide +kernel
theorem dX4_seeingPairs_1 : decode cX4_seeingPairs 1 = .ok (.istore_n 1, 1) := by decide +kernel
theorem dX4_seeingPairs_2 : decode cX4_seeingPairs 2 = .ok (.iconst 0, 1) := by decide +kernel
theorem dX4_seeingPairs_3 : decode cX4_seeingPairs 3 = .ok (.istore_n 2, 1) := by decide +kernel
theorem dX4_seeingPairs_4 : decode cX4_seeingPairs 4 = .ok (.iload_n 2, 1) := by decide +kernel
theorem dX4_seeingPairs_5 : decode cX4_seeingPairs 5 = .ok (.bipush 6, 2) := by decide +kernel
theorem dX4_seeingPairs_7 : decode cX4_seeingPairs 7 = .ok (.if_icmp .ge 35, 3) := by decide +kernel
theorem dX4_seeingPairs_10 : decode cX4_seeingPairs 10 = .ok (.iconst 0, 1) := by decide +kernel
theorem dX4_seeingPairs_11 : decode cX4_seeingPairs 11 = .ok (.istore_n 3, 1) := by decide +kernel
theorem dX4_seeingPairs_12 : decode cX4_seeingPairs 12 = .ok (.iload_n 3, 1) := by decide +kernel
theorem dX4_seeingPairs_13 : decode cX4_seeingPairs 13 = .ok (.bipush 6, 2) := by decide +kernel
theorem dX4_seeingPairs_15 : decode cX4_seeingPairs 15 = .ok (.if_icmp .ge 21, 3) := by decide +kernel
theorem dX4_seeingPairs_18 : decode cX4_seeingPairs 18 = .ok (.aload_n 0, 1) := by decide +kernel
theorem dX4_seeingPairs_19 : decode cX4_seeingPairs 19 = .ok (.iload_n 2, 1) := by decide +kernel
theorem dX4_seeingPairs_20 : decode cX4_seeingPairs 20 = .ok (.iload_n 3, 1) := by decide +kernel
theorem dX4_seeingPairs_21 : decode cX4_seeingPairs 21 = .ok (.invokevirtual 31, 3) := by decide +kernel
theorem dX4_seeingPairs_24 : decode cX4_seeingPairs 24 = .ok (.ifCond .eq 6, 3) := by decide +kernel
theorem dX4_seeingPairs_27 : decode cX4_seeingPairs 27 = .ok (.iinc 1 1, 3) := by decide +kernel
theorem dX4_seeingPairs_30 : decode cX4_seeingPairs 30 = .ok (.iinc 3 1, 3) := by decide +kernel
theorem dX4_seeingPairs_33 : decode cX4_seeingPairs 33 = .ok (.goto (-21), 3) := by decide +kernel
theorem dX4_seeingPairs_36 : decode cX4_seeingPairs 36 = .ok (.iinc 2 1, 3) := by decide +kernel
theorem dX4_seeingPairs_39 : decode cX4_seeingPairs 39 = .ok (.goto (-35), 3) := by decide +kernel
theorem dX4_seeingPairs_42 : decode cX4_seeingPairs 42 = .ok (.iload_n 1, 1) := by decide +kernel
theorem dX4_seeingPairs_43 : decode cX4_seeingPairs 43 = .ok (.ireturn, 1) := by decide +kernel
set_option maxRecDepth 20000 in
theorem ggX4_hasView_X4_mood : GoodIn wsX4_hasView wsX4_mood := goodIn_r _ [5, 6, 7] (by decide +kernel) (by decide +kernel)
set_option maxRecDepth 20000 in
theorem gX4_hasView_X4_mood : GoodIn wsX4_hasView (wsV RX4 35 RX4 yX4_mood wsX4_mood) := goodIn_app (goodIn_of _ (by decide +kernel)) ggX4_hasView_X4_mood
theorem dX4_hasView_0 : decode cX4_hasView 0 = .ok (.iconst 0, 1) := by decide +kernel
theorem dX4_hasView_1 : decode cX4_hasView 1 = .ok (.istore_n 3, 1) := by decide +kernel
theorem dX4_hasView_2 : decode cX4_hasView 2 = .ok (.iload_n 3, 1) := by decide +kernel
theorem dX4_hasView_3 : decode cX4_hasView 3 = .ok (.iconst 3, 1) := by decide +kernel
theorem dX4_hasView_4 : decode cX4_hasView 4 = .ok (.if_icmp .ge 22, 3) := by decide +kernel
theorem dX4_hasView_7 : decode cX4_hasView 7 = .ok (.aload_n 0, 1) := by decide +kernel
theorem dX4_hasView_8 : decode cX4_hasView 8 = .ok (.iload_n 1, 1) := by decide +kernel
theorem dX4_hasView_9 : decode cX4_hasView 9 = .ok (.iload_n 2, 1) := by decide +kernel
theorem dX4_hasView_10 : decode cX4_hasView 10 = .ok (.iload_n 3, 1) := by decide +kernel
theorem dX4_hasView_11 : decode cX4_hasView 11 = .ok (.invokevirtual 35, 3) := by decide +kernel
theorem dX4_hasView_14 : decode cX4_hasView 14 = .ok (.iconst (-1), 1) := by decide +kernel
theorem dX4_hasView_15 : decode cX4_hasView 15 = .ok (.if_icmp .eq 5, 3) := by decide +kernel
theorem dX4_hasView_18 : decode cX4_hasView 18 = .ok (.iconst 1, 1) := by decide +kernel
theorem dX4_hasView_19 : decode cX4_hasView 19 = .ok (.ireturn, 1) := by decide +kernel
theorem dX4_hasView_20 : decode cX4_hasView 20 = .ok (.iinc 3 1, 3) := by decide +kernel
theorem dX4_hasView_23 : decode cX4_hasView 23 = .ok (.goto (-21), 3) := by decide +kernel
theorem dX4_hasView_26 : decode cX4_hasView 26 = .ok (.iconst 0, 1) := by decide +kernel
theorem dX4_hasView_27 : decode cX4_hasView 27 = .ok (.ireturn, 1) := by decide +kernel

set_option maxRecDepth 20000 in
theorem ggX5_init_X3_init : GoodIn wsX5_init wsX3_init := goodIn_r _ [23, 24, 2, 3, 20, 25, 26, 27, 48, 49, 50] (by decide +kernel) (by decide +kernel)
set_option maxRecDepth 20000 in
theorem gX5_init_X3_init_n11 : GoodIn wsX5_init (wsX3_init) := ggX5_init_X3_init
set_option maxRecDepth 20000 in
theorem ggX5_init_X1_init : GoodIn wsX5_init wsX1_init := goodIn_r _ [29, 30, 2, 3, 20, 31, 32, 33, 56, 57, 58] (by decide +kernel) (by decide +kernel)
set_option maxRecDepth 20000 in
theorem gX5_init_X1_init_n20 : GoodIn wsX5_init (wsX1_init) := ggX5_init_X1_init
set_option maxRecDepth 20000 in
theorem ggX5_init_X4_init : GoodIn wsX5_init wsX4_init := goodIn_r _ [36, 37, 2, 3, 20, 38, 39, 40, 41, 42, 59] (by decide +kernel) (by decide +kernel)
set_option maxRecDepth 20000 in
theorem gX5_init_X4_init : GoodIn wsX5_init (wsX4_init) := ggX5_init_X4_init
set_option maxRecDepth 20000 in
theorem ggX5_init_X0_init : GoodIn wsX5_init wsX0_init := goodIn_r _ [44, 45, 2, 3, 20, 46, 47, 60, 61, 62, 63] (by decide +kernel) (by decide +kernel)
set_option maxRecDepth 20000 in
theorem gX5_init_X0_init_n34 : GoodIn wsX5_init (wsX0_init) := ggX5_init_X0_init
theorem dX5_init_0 : decode cX5_init 0 = .ok (.aload_n 0, 1) := by decide +kernel
theorem dX5_init_1 : decode cX5_init 1 = .ok (.invokespecial 3, 3) := by decide +kernel
theorem dX5_init_4 : decode cX5_init 4 = .ok (.aload_n 0, 1) := by decide +kernel
theorem dX5_init_5 : decode cX5_init 5 = .ok (.new 9, 3) := by decide +kernel
theorem dX5_init_8 : decode cX5_init 8 = .ok (.dup, 1) := by decide +kernel
theorem dX5_init_9 : decode cX5_init 9 = .ok (.invokespecial 11, 3) := by decide +kernel
theorem dX5_init_12 : decode cX5_init 12 = .ok (.putfield 12, 3) := by decide +kernel
theorem dX5_init_15 : decode cX5_init 15 = .ok (.aload_n 0, 1) := by decide +kernel
theorem dX5_init_16 : decode cX5_init 16 = .ok (.new 18, 3) := by decide +kernel
theorem dX5_init_19 : decode cX5_init 19 = .ok (.dup, 1) := by decide +kernel
theorem dX5_init_20 : decode cX5_init 20 = .ok (.invokespecial 20, 3) := by decide +kernel
theorem dX5_init_23 : decode cX5_init 23 = .ok (.putfield 21, 3) := by decide +kernel
theorem dX5_init_26 : decode cX5_init 26 = .ok (.aload_n 0, 1) := by decide +kernel
theorem dX5_init_27 : decode cX5_init 27 = .ok (.new 25, 3) := by decide +kernel
theorem dX5_init_30 : decode cX5_init 30 = .ok (.dup, 1) := by decide +kernel
theorem dX5_init_31 : decode cX5_init 31 = .ok (.invokespecial 27, 3) := by decide +kernel
theorem dX5_init_34 : decode cX5_init 34 = .ok (.putfield 28, 3) := by decide +kernel
theorem dX5_init_37 : decode cX5_init 37 = .ok (.aload_n 0, 1) := by decide +kernel
theorem dX5_init_38 : decode cX5_init 38 = .ok (.new 32, 3) := by decide +kernel
theorem dX5_init_41 : decode cX5_init 41 = .ok (.dup, 1) := by decide +kernel
theorem dX5_init_42 : decode cX5_init 42 = .ok (.invokespecial 34, 3) := by decide +kernel
theorem dX5_init_45 : decode cX5_init 45 = .ok (.putfield 35, 3) := by decide +kernel
theorem dX5_init_48 : decode cX5_init 48 = .ok (.aload_n 0, 1) := by decide +kernel
theorem dX5_init_49 : decode cX5_init 49 = .ok (.bipush 36, 2) := by decide +kernel
theorem dX5_init_51 : decode cX5_init 51 = .ok (.newarray .int, 2) := by decide +kernel
theorem dX5_init_53 : decode cX5_init 53 = .ok (.putfield 39, 3) := by decide +kernel
theorem dX5_init_56 : decode cX5_init 56 = .ok (.return_, 1) := by decide +kernel
set_option maxRecDepth 20000 in
theorem ggX5_copyFrom_X3_copyFrom : GoodIn wsX5_copyFrom wsX3_copyFrom := goodIn_r _ [14, 15, 16, 7, 8, 9, 17, 18, 50, 51, 52] (by decide +kernel) (by decide +kernel)
set_option maxRecDepth 20000 in
theorem gX5_copyFrom_X3_copyFrom : GoodIn wsX5_copyFrom (wsV RX5 43 RX3 yX3_copyFrom wsX3_copyFrom) := goodIn_app (goodIn_of _ (by decide +kernel)) ggX5_copyFrom_X3_copyFrom
set_option maxRecDepth 20000 in
theorem ggX5_copyFrom_X1_copyFrom : GoodIn wsX5_copyFrom wsX1_copyFrom := goodIn_r _ [23, 24, 25, 7, 8, 9, 26, 27, 53, 54, 55] (by decide +kernel) (by decide +kernel)
set_option maxRecDepth 20000 in
theorem gX5_copyFrom_X1_copyFrom : GoodIn wsX5_copyFrom (wsV RX5 47 RX1 yX1_copyFrom wsX1_copyFrom) := goodIn_app (goodIn_of _ (by decide +kernel)) ggX5_copyFrom_X1_copyFrom
set_option maxRecDepth 20000 in
theorem ggX5_copyFrom_X4_copyFrom : GoodIn wsX5_copyFrom wsX4_copyFrom := goodIn_r _ [32, 33, 34, 7, 8, 9, 56] (by decide +kernel) (by decide +kernel)
set_option maxRecDepth 20000 in
theorem gX5_copyFrom_X4_copyFrom : GoodIn wsX5_copyFrom (wsV RX5 50 RX4 yX4_copyFrom wsX4_copyFrom) := goodIn_app (goodIn_of _ (by decide +kernel)) ggX5_copyFrom_X4_copyFrom
set_option maxRecDepth 20000 in
theorem ggX5_copyFrom_X0_copyFrom : GoodIn wsX5_copyFrom wsX0_copyFrom := goodIn_r _ [39, 40, 41, 7, 8, 9, 42, 43, 44, 57, 58, 59, 60] (by decide +kernel) (by decide +kernel)
set_option maxRecDepth 20000 in
theorem gX5_copyFrom_X0_copyFrom : GoodIn wsX5_copyFrom (wsV RX5 53 RX0 yX0_copyFrom wsX0_copyFrom) := goodIn_app (goodIn_of _ (by decide +kernel)) ggX5_copyFrom_X0_copyFrom
theorem dX5_copyFrom_0 : decode cX5_copyFrom 0 = .ok (.aload_n 0, 1) := by decide +kernel
theorem dX5_copyFrom_1 : decode cX5_copyFrom 1 = .ok (.getfield 12, 3) := by decide +kernel
theorem dX5_copyFrom_4 : decode cX5_copyFrom 4 = .ok (.aload_n 1, 1) := by decide +kernel
theorem dX5_copyFrom_5 : decode cX5_copyFrom 5 = .ok (.getfield 12, 3) := by decide +kernel
theorem dX5_copyFrom_8 : decode cX5_copyFrom 8 = .ok (.invokevirtual 43, 3) := by decide +kernel
theorem dX5_copyFrom_11 : decode cX5_copyFrom 11 = .ok (.aload_n 0, 1) := by decide +kernel
theorem dX5_copyFrom_12 : decode cX5_copyFrom 12 = .ok (.getfield 21, 3) := by decide +kernel
theorem dX5_copyFrom_15 : decode cX5_copyFrom 15 = .ok (.aload_n 1, 1) := by decide +kernel
theorem dX5_copyFrom_16 : decode cX5_copyFrom 16 = .ok (.getfield 21, 3) := by decide +kernel
theorem dX5_copyFrom_19 : decode cX5_copyFrom 19 = .ok (.invokevirtual 47, 3) := by decide +kernel
theorem dX5_copyFrom_22 : decode cX5_copyFrom 22 = .ok (.aload_n 0, 1) := by decide +kernel
theorem dX5_copyFrom_23 : decode cX5_copyFrom 23 = .ok (.getfield 28, 3) := by decide +kernel
theorem dX5_copyFrom_26 : decode cX5_copyFrom 26 = .ok (.aload_n 1, 1) := by decide +kernel
theorem dX5_copyFrom_27 : decode cX5_copyFrom 27 = .ok (.getfield 28, 3) := by decide +kernel
theorem dX5_copyFrom_30 : decode cX5_copyFrom 30 = .ok (.invokevirtual 50, 3) := by decide +kernel
theorem dX5_copyFrom_33 : decode cX5_copyFrom 33 = .ok (.aload_n 0, 1) := by decide +kernel
theorem dX5_copyFrom_34 : decode cX5_copyFrom 34 = .ok (.getfield 35, 3) := by decide +kernel
theorem dX5_copyFrom_37 : decode cX5_copyFrom 37 = .ok (.aload_n 1, 1) := by decide +kernel
theorem dX5_copyFrom_38 : decode cX5_copyFrom 38 = .ok (.getfield 35, 3) := by decide +kernel
theorem dX5_copyFrom_41 : decode cX5_copyFrom 41 = .ok (.invokevirtual 53, 3) := by decide +kernel
theorem dX5_copyFrom_44 : decode cX5_copyFrom 44 = .ok (.aload_n 1, 1) := by decide +kernel
theorem dX5_copyFrom_45 : decode cX5_copyFrom 45 = .ok (.getfield 39, 3) := by decide +kernel
theorem dX5_copyFrom_48 : decode cX5_copyFrom 48 = .ok (.iconst 0, 1) := by decide +kernel
theorem dX5_copyFrom_49 : decode cX5_copyFrom 49 = .ok (.aload_n 0, 1) := by decide +kernel
theorem dX5_copyFrom_50 : decode cX5_copyFrom 50 = .ok (.getfield 39, 3) := by decide +kernel
theorem dX5_copyFrom_53 : decode cX5_copyFrom 53 = .ok (.iconst 0, 1) := by decide +kernel
theorem dX5_copyFrom_54 : decode cX5_copyFrom 54 = .ok (.bipush 36, 2) := by decide +kernel
theorem dX5_copyFrom_56 : decode cX5_copyFrom 56 = .ok (.invokestatic 56, 3) := by decide +kernel
theorem dX5_copyFrom_59 : decode cX5_copyFrom 59 = .ok (.return_, 1) := by decide +kernel
theorem dX5_apart_0 : decode cX5_apart 0 = .ok (.aload_n 0, 1) := by decide +kernel
theorem dX5_apart_1 : decode cX5_apart 1 = .ok (.getfield 39, 3) := by decide +kernel
theorem dX5_apart_4 : decode cX5_apart 4 = .ok (.iload_n 1, 1) := by decide +kernel
theorem dX5_apart_5 : decode cX5_apart 5 = .ok (.bipush 6, 2) := by decide +kernel
theorem dX5_apart_7 : decode cX5_apart 7 = .ok (.imul, 1) := by decide +kernel
theorem dX5_apart_8 : decode cX5_apart 8 = .ok (.iload_n 2, 1) := by decide +kernel
theorem dX5_apart_9 : decode cX5_apart 9 = .ok (.iadd, 1) := by decide +kernel
theorem dX5_apart_10 : decode cX5_apart 10 = .ok (.iaload, 1) := by decide +kernel
theorem dX5_apart_11 : decode cX5_apart 11 = .ok (.iconst 1, 1) := by decide +kernel
theorem dX5_apart_12 : decode cX5_apart 12 = .ok (.if_icmp .eq 18, 3) := by decide +kernel
theorem dX5_apart_15 : decode cX5_apart 15 = .ok (.aload_n 0, 1) := by decide +kernel
theorem dX5_apart_16 : decode cX5_apart 16 = .ok (.getfield 39, 3) := by decide +kernel
theorem dX5_apart_19 : decode cX5_apart 19 = .ok (.iload_n 2, 1) := by decide +kernel
theorem dX5_apart_20 : decode cX5_apart 20 = .ok (.bipush 6, 2) := by decide +kernel
theorem dX5_apart_22 : decode cX5_apart 22 = .ok (.imul, 1) := by decide +kernel
theorem dX5_apart_23 : decode cX5_apart 23 = .ok (.iload_n 1, 1) := by decide +kernel
theorem dX5_apart_24 : decode cX5_apart 24 = .ok (.iadd, 1) := by decide +kernel
theorem dX5_apart_25 : decode cX5_apart 25 = .ok (.iaload, 1) := by decide +kernel
theorem dX5_apart_26 : decode cX5_apart 26 = .ok (.iconst 1, 1) := by decide +kernel
theorem dX5_apart_27 : decode cX5_apart 27 = .ok (.if_icmp .ne 7, 3) := by decide +kernel
theorem dX5_apart_30 : decode cX5_apart 30 = .ok (.iconst 1, 1) := by decide +kernel
theorem dX5_apart_31 : decode cX5_apart 31 = .ok (.goto 4, 3) := by decide +kernel
theorem dX5_apart_34 : decode cX5_apart 34 = .ok (.iconst 0, 1) := by decide +kernel
theorem dX5_apart_35 : decode cX5_apart 35 = .ok (.ireturn, 1) := by decide +kernel
set_option maxRecDepth 20000 in
theorem ggX5_askFor_X1_hasAny : GoodIn wsX5_askFor wsX1_hasAny := goodIn_r _ [6, 7, 46, 47, 48] (by decide +kernel) (by decide +kernel)
set_option maxRecDepth 20000 in
theorem gX5_askFor_X1_hasAny : GoodIn wsX5_askFor (wsV RX5 62 RX1 yX1_hasAny wsX1_hasAny) := goodIn_app (goodIn_of _ (by decide +kernel)) ggX5_askFor_X1_hasAny
set_option maxRecDepth 20000 in
theorem ggX5_askFor_X1_change : GoodIn wsX5_askFor wsX1_change := goodIn_r _ [11, 7, 12, 13, 46, 47, 48] (by decide +kernel) (by decide +kernel)
set_option maxRecDepth 20000 in
theorem gX5_askFor_X1_change : GoodIn wsX5_askFor (wsV RX5 66 RX1 yX1_change wsX1_change) := goodIn_app (goodIn_of _ (by decide +kernel)) ggX5_askFor_X1_change
set_option maxRecDepth 20000 in
theorem ggX5_askFor_X5_send : GoodIn wsX5_askFor wsX5_send := goodIn_r _ [18, 19, 20, 21, 17, 22, 23, 24, 25, 26, 27, 28, 29, 30, 31, 32, 33, 34, 35, 36, 37, 38, 39, 40, 41, 42, 43, 44, 45, 49, 50, 51, 52] (by decide +kernel) (by decide +kernel)
set_option maxRecDepth 20000 in
theorem gX5_askFor_X5_send : GoodIn wsX5_askFor (wsV RX5 70 RX5 yX5_send wsX5_send) := goodIn_app (goodIn_of _ (by decide +kernel)) ggX5_askFor_X5_send
theorem dX5_askFor_0 : decode cX5_askFor 0 = .ok (.aload_n 0, 1) := by decide +kernel
theorem dX5_askFor_1 : decode cX5_askFor 1 = .ok (.getfield 21, 3) := by decide +kernel
theorem dX5_askFor_4 : decode cX5_askFor 4 = .ok (.iload_n 1, 1) := by decide +kernel
theorem dX5_askFor_5 : decode cX5_askFor 5 = .ok (.iload_n 2, 1) := by decide +kernel
theorem dX5_askFor_6 : decode cX5_askFor 6 = .ok (.iconst 5, 1) := by decide +kernel
theorem dX5_askFor_7 : decode cX5_askFor 7 = .ok (.invokevirtual 62, 3) := by decide +kernel
theorem dX5_askFor_10 : decode cX5_askFor 10 = .ok (.ifCond .eq 5, 3) := by decide +kernel
theorem dX5_askFor_13 : decode cX5_askFor 13 = .ok (.iconst 0, 1) := by decide +kernel
theorem dX5_askFor_14 : decode cX5_askFor 14 = .ok (.ireturn, 1) := by decide +kernel
theorem dX5_askFor_15 : decode cX5_askFor 15 = .ok (.aload_n 0, 1) := by decide +kernel
theorem dX5_askFor_16 : decode cX5_askFor 16 = .ok (.getfield 21, 3) := by decide +kernel
theorem dX5_askFor_19 : decode cX5_askFor 19 = .ok (.iload_n 1, 1) := by decide +kernel
theorem dX5_askFor_20 : decode cX5_askFor 20 = .ok (.iload_n 2, 1) := by decide +kernel
theorem dX5_askFor_21 : decode cX5_askFor 21 = .ok (.iconst 0, 1) := by decide +kernel
theorem dX5_askFor_22 : decode cX5_askFor 22 = .ok (.iconst 4, 1) := by decide +kernel
theorem dX5_askFor_23 : decode cX5_askFor 23 = .ok (.invokevirtual 66, 3) := by decide +kernel
theorem dX5_askFor_26 : decode cX5_askFor 26 = .ok (.aload_n 0, 1) := by decide +kernel
theorem dX5_askFor_27 : decode cX5_askFor 27 = .ok (.iconst 0, 1) := by decide +kernel
theorem dX5_askFor_28 : decode cX5_askFor 28 = .ok (.iload_n 1, 1) := by decide +kernel
theorem dX5_askFor_29 : decode cX5_askFor 29 = .ok (.iload_n 2, 1) := by decide +kernel
theorem dX5_askFor_30 : decode cX5_askFor 30 = .ok (.invokevirtual 70, 3) := by decide +kernel
theorem dX5_askFor_33 : decode cX5_askFor 33 = .ok (.iconst 1, 1) := by decide +kernel
theorem dX5_askFor_34 : decode cX5_askFor 34 = .ok (.ireturn, 1) := by decide +kernel
set_option maxRecDepth 20000 in
theorem ggX5_grantTo_X1_hasAny : GoodIn wsX5_grantTo wsX1_hasAny := goodIn_r _ [6, 7, 62, 63, 64] (by decide +kernel) (by decide +kernel)
set_option maxRecDepth 20000 in
theorem gX5_grantTo_X1_hasAny : GoodIn wsX5_grantTo (wsV RX5 62 RX1 yX1_hasAny wsX1_hasAny) := goodIn_app (goodIn_of _ (by decide +kernel)) ggX5_grantTo_X1_hasAny
set_option maxRecDepth 20000 in
theorem ggX5_grantTo_X1_change : GoodIn wsX5_grantTo wsX1_change := goodIn_r _ [11, 7, 12, 13, 62, 63, 64] (by decide +kernel) (by decide +kernel)
set_option maxRecDepth 20000 in
theorem gX5_grantTo_X1_change : GoodIn wsX5_grantTo (wsV RX5 66 RX1 yX1_change wsX1_change) := goodIn_app (goodIn_of _ (by decide +kernel)) ggX5_grantTo_X1_change
set_option maxRecDepth 20000 in
theorem ggX5_grantTo_X5_send : GoodIn wsX5_grantTo wsX5_send := goodIn_r _ [18, 19, 20, 21, 17, 22, 23, 24, 25, 26, 27, 28, 29, 30, 31, 32, 33, 34, 35, 36, 37, 38, 39, 40, 57, 58, 59, 60, 61, 65, 66, 67, 68] (by decide +kernel) (by decide +kernel)
set_option maxRecDepth 20000 in
theorem gX5_grantTo_X5_send : GoodIn wsX5_grantTo (wsV RX5 70 RX5 yX5_send wsX5_send) := goodIn_app (goodIn_of _ (by decide +kernel)) ggX5_grantTo_X5_send
set_option maxRecDepth 20000 in
theorem ggX5_grantTo_X5_show : GoodIn wsX5_grantTo wsX5_show := goodIn_r _ [44, 45, 46, 47, 48, 49, 50, 51, 52, 53, 54, 55, 56, 19, 20, 21, 17, 22, 23, 24, 25, 26, 27, 28, 29, 30, 31, 32, 33, 34, 35, 36, 37, 38, 39, 40, 57, 58, 59, 60, 61, 69, 70, 71, 65, 66, 67, 68] (by decide +kernel) (by decide +kernel)
set_option maxRecDepth 20000 in
theorem gX5_grantTo_X5_show : GoodIn wsX5_grantTo (wsV RX5 74 RX5 yX5_show wsX5_show) := goodIn_app (goodIn_of _ (by decide +kernel)) ggX5_grantTo_X5_show
theorem dX5_grantTo_0 : decode cX5_grantTo 0 = .ok (.aload_n 0, 1) := by decide +kernel
theorem dX5_grantTo_1 : decode cX5_grantTo 1 = .ok (.getfield 21, 3) := by decide +kernel
theorem dX5_grantTo_4 : decode cX5_grantTo 4 = .ok (.iload_n 1, 1) := by decide +kernel
theorem dX5_grantTo_5 : decode cX5_grantTo 5 = .ok (.iload_n 2, 1) := by decide +kernel
theorem dX5_grantTo_6 : decode cX5_grantTo 6 = .ok (.bipush 8, 2) := by decide +kernel
theorem dX5_grantTo_8 : decode cX5_grantTo 8 = .ok (.invokevirtual 62, 3) := by decide +kernel
theorem dX5_grantTo_11 : decode cX5_grantTo 11 = .ok (.ifCond .ne 5, 3) := by decide +kernel
theorem dX5_grantTo_14 : decode cX5_grantTo 14 = .ok (.iconst 0, 1) := by decide +kernel
theorem dX5_grantTo_15 : decode cX5_grantTo 15 = .ok (.ireturn, 1) := by decide +kernel
theorem dX5_grantTo_16 : decode cX5_grantTo 16 = .ok (.aload_n 0, 1) := by decide +kernel
theorem dX5_grantTo_17 : decode cX5_grantTo 17 = .ok (.getfield 21, 3) := by decide +kernel
theorem dX5_grantTo_20 : decode cX5_grantTo 20 = .ok (.iload_n 1, 1) := by decide +kernel
theorem dX5_grantTo_21 : decode cX5_grantTo 21 = .ok (.iload_n 2, 1) := by decide +kernel
theorem dX5_grantTo_22 : decode cX5_grantTo 22 = .ok (.bipush 8, 2) := by decide +kernel
theorem dX5_grantTo_24 : decode cX5_grantTo 24 = .ok (.iconst 2, 1) := by decide +kernel
theorem dX5_grantTo_25 : decode cX5_grantTo 25 = .ok (.invokevirtual 66, 3) := by decide +kernel
theorem dX5_grantTo_28 : decode cX5_grantTo 28 = .ok (.aload_n 0, 1) := by decide +kernel
theorem dX5_grantTo_29 : decode cX5_grantTo 29 = .ok (.iconst 1, 1) := by decide +kernel
theorem dX5_grantTo_30 : decode cX5_grantTo 30 = .ok (.iload_n 1, 1) := by decide +kernel
theorem dX5_grantTo_31 : decode cX5_grantTo 31 = .ok (.iload_n 2, 1) := by decide +kernel
theorem dX5_grantTo_32 : decode cX5_grantTo 32 = .ok (.invokevirtual 70, 3) := by decide +kernel
theorem dX5_grantTo_35 : decode cX5_grantTo 35 = .ok (.aload_n 0, 1) := by decide +kernel
theorem dX5_grantTo_36 : decode cX5_grantTo 36 = .ok (.iload_n 1, 1) := by decide +kernel
theorem dX5_grantTo_37 : decode cX5_grantTo 37 = .ok (.iload_n 2, 1) := by decide +kernel
theorem dX5_grantTo_38 : decode cX5_grantTo 38 = .ok (.invokevirtual 74, 3) := by decide +kernel
theorem dX5_grantTo_41 : decode cX5_grantTo 41 = .ok (.iconst 1, 1) := by decide +kernel
theorem dX5_grantTo_42 : decode cX5_grantTo 42 = .ok (.ireturn, 1) := by decide +kernel
set_option maxRecDepth 20000 in
theorem ggX5_refuseTo_X1_hasAny : GoodIn wsX5_refuseTo wsX1_hasAny := goodIn_r _ [6, 7, 57, 58, 59] (by decide +kernel) (by decide +kernel)
set_option maxRecDepth 20000 in
theorem gX5_refuseTo_X1_hasAny : GoodIn wsX5_refuseTo (wsV RX5 62 RX1 yX1_hasAny wsX1_hasAny) := goodIn_app (goodIn_of _ (by decide +kernel)) ggX5_refuseTo_X1_hasAny
set_option maxRecDepth 20000 in
theorem ggX5_refuseTo_X1_change : GoodIn wsX5_refuseTo wsX1_change := goodIn_r _ [11, 7, 12, 13, 57, 58, 59] (by decide +kernel) (by decide +kernel)
set_option maxRecDepth 20000 in
theorem gX5_refuseTo_X1_change : GoodIn wsX5_refuseTo (wsV RX5 66 RX1 yX1_change wsX1_change) := goodIn_app (goodIn_of _ (by decide +kernel)) ggX5_refuseTo_X1_change
set_option maxRecDepth 20000 in
theorem ggX5_refuseTo_X5_send : GoodIn wsX5_refuseTo wsX5_send := goodIn_r _ [18, 19, 20, 21, 17, 22, 23, 24, 25, 26, 27, 28, 29, 30, 31, 32, 33, 34, 35, 36, 37, 38, 39, 40, 52, 53, 54, 55, 56, 60, 61, 62, 63] (by decide +kernel) (by decide +kernel)
set_option maxRecDepth 20000 in
theorem gX5_refuseTo_X5_send : GoodIn wsX5_refuseTo (wsV RX5 70 RX5 yX5_send wsX5_send) := goodIn_app (goodIn_of _ (by decide +kernel)) ggX5_refuseTo_X5_send
set_option maxRecDepth 20000 in
theorem ggX5_refuseTo_X5_hide : GoodIn wsX5_refuseTo wsX5_hide := goodIn_r _ [44, 45, 46, 47, 48, 49, 50, 51, 19, 20, 21, 17, 22, 23, 24, 25, 26, 27, 28, 29, 30, 31, 32, 33, 34, 35, 36, 37, 38, 39, 40, 52, 53, 54, 55, 56, 64, 65, 66, 60, 61, 62, 63] (by decide +kernel) (by decide +kernel)
set_option maxRecDepth 20000 in
theorem gX5_refuseTo_X5_hide : GoodIn wsX5_refuseTo (wsV RX5 78 RX5 yX5_hide wsX5_hide) := goodIn_app (goodIn_of _ (by decide +kernel)) ggX5_refuseTo_X5_hide
theorem dX5_refuseTo_0 : decode cX5_refuseTo 0 = .ok (.aload_n 0, 1) := by decide +kernel
theorem dX5_refuseTo_1 : decode cX5_refuseTo 1 = .ok (.getfield 21, 3) := by decide +kernel
theorem dX5_refuseTo_4 : decode cX5_refuseTo 4 = .ok (.iload_n 1, 1) := by decide +kernel
theorem dX5_refuseTo_5 : decode cX5_refuseTo 5 = .ok (.iload_n 2, 1) := by decide +kernel
theorem dX5_refuseTo_6 : decode cX5_refuseTo 6 = .ok (.bipush 10, 2) := by decide +kernel
theorem dX5_refuseTo_8 : decode cX5_refuseTo 8 = .ok (.invokevirtual 62, 3) := by decide +kernel
theorem dX5_refuseTo_11 : decode cX5_refuseTo 11 = .ok (.ifCond .ne 5, 3) := by decide +kernel
theorem dX5_refuseTo_14 : decode cX5_refuseTo 14 = .ok (.iconst 0, 1) := by decide +kernel
theorem dX5_refuseTo_15 : decode cX5_refuseTo 15 = .ok (.ireturn, 1) := by decide +kernel
theorem dX5_refuseTo_16 : decode cX5_refuseTo 16 = .ok (.aload_n 0, 1) := by decide +kernel
theorem dX5_refuseTo_17 : decode cX5_refuseTo 17 = .ok (.getfield 21, 3) := by decide +kernel
theorem dX5_refuseTo_20 : decode cX5_refuseTo 20 = .ok (.iload_n 1, 1) := by decide +kernel
theorem dX5_refuseTo_21 : decode cX5_refuseTo 21 = .ok (.iload_n 2, 1) := by decide +kernel
theorem dX5_refuseTo_22 : decode cX5_refuseTo 22 = .ok (.iconst 2, 1) := by decide +kernel
theorem dX5_refuseTo_23 : decode cX5_refuseTo 23 = .ok (.invokevirtual 62, 3) := by decide +kernel
theorem dX5_refuseTo_26 : decode cX5_refuseTo 26 = .ok (.istore_n 3, 1) := by decide +kernel
theorem dX5_refuseTo_27 : decode cX5_refuseTo 27 = .ok (.aload_n 0, 1) := by decide +kernel
theorem dX5_refuseTo_28 : decode cX5_refuseTo 28 = .ok (.getfield 21, 3) := by decide +kernel
theorem dX5_refuseTo_31 : decode cX5_refuseTo 31 = .ok (.iload_n 1, 1) := by decide +kernel
theorem dX5_refuseTo_32 : decode cX5_refuseTo 32 = .ok (.iload_n 2, 1) := by decide +kernel
theorem dX5_refuseTo_33 : decode cX5_refuseTo 33 = .ok (.bipush 10, 2) := by decide +kernel
theorem dX5_refuseTo_35 : decode cX5_refuseTo 35 = .ok (.iconst 0, 1) := by decide +kernel
theorem dX5_refuseTo_36 : decode cX5_refuseTo 36 = .ok (.invokevirtual 66, 3) := by decide +kernel
theorem dX5_refuseTo_39 : decode cX5_refuseTo 39 = .ok (.aload_n 0, 1) := by decide +kernel
theorem dX5_refuseTo_40 : decode cX5_refuseTo 40 = .ok (.iconst 3, 1) := by decide +kernel
theorem dX5_refuseTo_41 : decode cX5_refuseTo 41 = .ok (.iload_n 1, 1) := by decide +kernel
theorem dX5_refuseTo_42 : decode cX5_refuseTo 42 = .ok (.iload_n 2, 1) := by decide +kernel
theorem dX5_refuseTo_43 : decode cX5_refuseTo 43 = .ok (.invokevirtual 70, 3) := by decide +kernel
theorem dX5_refuseTo_46 : decode cX5_refuseTo 46 = .ok (.iload_n 3, 1) := by decide +kernel
theorem dX5_refuseTo_47 : decode cX5_refuseTo 47 = .ok (.ifCond .eq 9, 3) := by decide +kernel
theorem dX5_refuseTo_50 : decode cX5_refuseTo 50 = .ok (.aload_n 0, 1) := by decide +kernel
theorem dX5_refuseTo_51 : decode cX5_refuseTo 51 = .ok (.iload_n 1, 1) := by decide +kernel
theorem dX5_refuseTo_52 : decode cX5_refuseTo 52 = .ok (.iload_n 2, 1) := by decide +kernel
theorem dX5_refuseTo_53 : decode cX5_refuseTo 53 = .ok (.invokevirtual 78, 3) := by decide +kernel
theorem dX5_refuseTo_56 : decode cX5_refuseTo 56 = .ok (.iconst 1, 1) := by decide +kernel
theorem dX5_refuseTo_57 : decode cX5_refuseTo 57 = .ok (.ireturn, 1) := by decide +kernel
set_option maxRecDepth 20000 in
theorem ggX5_stopSeeing_X1_hasAny : GoodIn wsX5_stopSeeing wsX1_hasAny := goodIn_r _ [7, 8, 53, 54, 55] (by decide +kernel) (by decide +kernel)
set_option maxRecDepth 20000 in
theorem gX5_stopSeeing_X1_hasAny : GoodIn wsX5_stopSeeing (wsV RX5 62 RX1 yX1_hasAny wsX1_hasAny) := goodIn_app (goodIn_of _ (by decide +kernel)) ggX5_stopSeeing_X1_hasAny
set_option maxRecDepth 20000 in
theorem ggX5_stopSeeing_X1_change : GoodIn wsX5_stopSeeing wsX1_change := goodIn_r _ [12, 8, 13, 14, 53, 54, 55] (by decide +kernel) (by decide +kernel)
set_option maxRecDepth 20000 in
theorem gX5_stopSeeing_X1_change : GoodIn wsX5_stopSeeing (wsV RX5 66 RX1 yX1_change wsX1_change) := goodIn_app (goodIn_of _ (by decide +kernel)) ggX5_stopSeeing_X1_change
set_option maxRecDepth 20000 in
theorem ggX5_stopSeeing_X5_send : GoodIn wsX5_stopSeeing wsX5_send := goodIn_r _ [19, 20, 21, 22, 18, 23, 24, 25, 26, 27, 28, 29, 30, 31, 32, 33, 34, 35, 36, 37, 38, 39, 40, 41, 48, 49, 50, 51, 52, 56, 57, 58, 59] (by decide +kernel) (by decide +kernel)
set_option maxRecDepth 20000 in
theorem gX5_stopSeeing_X5_send : GoodIn wsX5_stopSeeing (wsV RX5 70 RX5 yX5_send wsX5_send) := goodIn_app (goodIn_of _ (by decide +kernel)) ggX5_stopSeeing_X5_send
set_option maxRecDepth 20000 in
theorem ggX5_stopSeeing_X4_forget : GoodIn wsX5_stopSeeing wsX4_forget := goodIn_r _ [46, 47, 60] (by decide +kernel) (by decide +kernel)
set_option maxRecDepth 20000 in
theorem gX5_stopSeeing_X4_forget : GoodIn wsX5_stopSeeing (wsV RX5 81 RX4 yX4_forget wsX4_forget) := goodIn_app (goodIn_of _ (by decide +kernel)) ggX5_stopSeeing_X4_forget
theorem dX5_stopSeeing_0 : decode cX5_stopSeeing 0 = .ok (.aload_n 0, 1) := by decide +kernel
theorem dX5_stopSeeing_1 : decode cX5_stopSeeing 1 = .ok (.getfield 21, 3) := by decide +kernel
theorem dX5_stopSeeing_4 : decode cX5_stopSeeing 4 = .ok (.iload_n 1, 1) := by decide +kernel
theorem dX5_stopSeeing_5 : decode cX5_stopSeeing 5 = .ok (.iload_n 2, 1) := by decide +kernel
theorem dX5_stopSeeing_6 : decode cX5_stopSeeing 6 = .ok (.iconst 5, 1) := by decide +kernel
theorem dX5_stopSeeing_7 : decode cX5_stopSeeing 7 = .ok (.invokevirtual 62, 3) := by decide +kernel
theorem dX5_stopSeeing_10 : decode cX5_stopSeeing 10 = .ok (.ifCond .ne 5, 3) := by decide +kernel
theorem dX5_stopSeeing_13 : decode cX5_stopSeeing 13 = .ok (.iconst 0, 1) := by decide +kernel
theorem dX5_stopSeeing_14 : decode cX5_stopSeeing 14 = .ok (.ireturn, 1) := by decide +kernel
theorem dX5_stopSeeing_15 : decode cX5_stopSeeing 15 = .ok (.aload_n 0, 1) := by decide +kernel
theorem dX5_stopSeeing_16 : decode cX5_stopSeeing 16 = .ok (.getfield 21, 3) := by decide +kernel
theorem dX5_stopSeeing_19 : decode cX5_stopSeeing 19 = .ok (.iload_n 1, 1) := by decide +kernel
theorem dX5_stopSeeing_20 : decode cX5_stopSeeing 20 = .ok (.iload_n 2, 1) := by decide +kernel
theorem dX5_stopSeeing_21 : decode cX5_stopSeeing 21 = .ok (.iconst 5, 1) := by decide +kernel
theorem dX5_stopSeeing_22 : decode cX5_stopSeeing 22 = .ok (.iconst 0, 1) := by decide +kernel
theorem dX5_stopSeeing_23 : decode cX5_stopSeeing 23 = .ok (.invokevirtual 66, 3) := by decide +kernel
theorem dX5_stopSeeing_26 : decode cX5_stopSeeing 26 = .ok (.aload_n 0, 1) := by decide +kernel
theorem dX5_stopSeeing_27 : decode cX5_stopSeeing 27 = .ok (.iconst 2, 1) := by decide +kernel
theorem dX5_stopSeeing_28 : decode cX5_stopSeeing 28 = .ok (.iload_n 1, 1) := by decide +kernel
theorem dX5_stopSeeing_29 : decode cX5_stopSeeing 29 = .ok (.iload_n 2, 1) := by decide +kernel
theorem dX5_stopSeeing_30 : decode cX5_stopSeeing 30 = .ok (.invokevirtual 70, 3) := by decide +kernel
theorem dX5_stopSeeing_33 : decode cX5_stopSeeing 33 = .ok (.aload_n 0, 1) := by decide +kernel
theorem dX5_stopSeeing_34 : decode cX5_stopSeeing 34 = .ok (.getfield 28, 3) := by decide +kernel
theorem dX5_stopSeeing_37 : decode cX5_stopSeeing 37 = .ok (.iload_n 1, 1) := by decide +kernel
theorem dX5_stopSeeing_38 : decode cX5_stopSeeing 38 = .ok (.iload_n 2, 1) := by decide +kernel
theorem dX5_stopSeeing_39 : decode cX5_stopSeeing 39 = .ok (.invokevirtual 81, 3) := by decide +kernel
theorem dX5_stopSeeing_42 : decode cX5_stopSeeing 42 = .ok (.iconst 1, 1) := by decide +kernel
theorem dX5_stopSeeing_43 : decode cX5_stopSeeing 43 = .ok (.ireturn, 1) := by decide +kernel
set_option maxRecDepth 20000 in
theorem ggX5_changeBlock_X1_hasAny : GoodIn wsX5_changeBlock wsX1_hasAny := goodIn_r _ [8, 9, 79, 80, 81] (by decide +kernel) (by decide +kernel)
set_option maxRecDepth 20000 in
theorem gX5_changeBlock_X1_hasAny : GoodIn wsX5_changeBlock (wsV RX5 62 RX1 yX1_hasAny wsX1_hasAny) := goodIn_app (goodIn_of _ (by decide +kernel)) ggX5_changeBlock_X1_hasAny
set_option maxRecDepth 20000 in
theorem ggX5_changeBlock_X5_hide : GoodIn wsX5_changeBlock wsX5_hide := goodIn_r _ [14, 15, 16, 17, 18, 19, 20, 21, 22, 23, 24, 13, 25, 26, 27, 28, 29, 30, 1, 31, 32, 33, 34, 35, 36, 37, 38, 39, 40, 41, 42, 74, 75, 76, 77, 78, 82, 83, 84, 85, 86, 87, 88] (by decide +kernel) (by decide +kernel)
set_option maxRecDepth 20000 in
theorem gX5_changeBlock_X5_hide : GoodIn wsX5_changeBlock (wsV RX5 78 RX5 yX5_hide wsX5_hide) := goodIn_app (goodIn_of _ (by decide +kernel)) ggX5_changeBlock_X5_hide
set_option maxRecDepth 20000 in
theorem ggX5_changeBlock_X4_forget : GoodIn wsX5_changeBlock wsX4_forget := goodIn_r _ [47, 48, 89] (by decide +kernel) (by decide +kernel)
set_option maxRecDepth 20000 in
theorem gX5_changeBlock_X4_forget : GoodIn wsX5_changeBlock (wsV RX5 81 RX4 yX4_forget wsX4_forget) := goodIn_app (goodIn_of _ (by decide +kernel)) ggX5_changeBlock_X4_forget
set_option maxRecDepth 20000 in
theorem ggX5_changeBlock_X5_greetAgain : GoodIn wsX5_changeBlock wsX5_greetAgain := goodIn_r _ [52, 2, 15, 4, 5, 6, 7, 8, 9, 53, 54, 55, 19, 56, 57, 58, 59, 60, 21, 61, 62, 63, 13, 64, 22, 23, 24, 25, 26, 27, 28, 29, 30, 1, 31, 32, 33, 34, 35, 36, 37, 38, 39, 40, 41, 42, 65, 66, 67, 68, 16, 17, 18, 20, 69, 70, 71, 72, 73, 74, 75, 76, 77, 78, 79, 80, 81, 82, 83, 84, 85, 86, 87, 88] (by decide +kernel) (by decide +kernel)
set_option maxRecDepth 20000 in
theorem gX5_changeBlock_X5_greetAgain : GoodIn wsX5_changeBlock (wsV RX5 84 RX5 yX5_greetAgain wsX5_greetAgain) := goodIn_app (goodIn_of _ (by decide +kernel)) ggX5_changeBlock_X5_greetAgain
theorem dX5_changeBlock_0 : decode cX5_changeBlock 0 = .ok (.iload_n 1, 1) := by decide +kernel
theorem dX5_changeBlock_1 : decode cX5_changeBlock 1 = .ok (.bipush 6, 2) := by decide +kernel
theorem dX5_changeBlock_3 : decode cX5_changeBlock 3 = .ok (.imul, 1) := by decide +kernel
theorem dX5_changeBlock_4 : decode cX5_changeBlock 4 = .ok (.iload_n 2, 1) := by decide +kernel
theorem dX5_changeBlock_5 : decode cX5_changeBlock 5 = .ok (.iadd, 1) := by decide +kernel
theorem dX5_changeBlock_6 : decode cX5_changeBlock 6 = .ok (.istore 4, 2) := by decide +kernel
theorem dX5_changeBlock_8 : decode cX5_changeBlock 8 = .ok (.aload_n 0, 1) := by decide +kernel
theorem dX5_changeBlock_9 : decode cX5_changeBlock 9 = .ok (.getfield 39, 3) := by decide +kernel
theorem dX5_changeBlock_12 : decode cX5_changeBlock 12 = .ok (.iload 4, 2) := by decide +kernel
theorem dX5_changeBlock_14 : decode cX5_changeBlock 14 = .ok (.iaload, 1) := by decide +kernel
theorem dX5_changeBlock_15 : decode cX5_changeBlock 15 = .ok (.iconst 1, 1) := by decide +kernel
theorem dX5_changeBlock_16 : decode cX5_changeBlock 16 = .ok (.if_icmp .ne 7, 3) := by decide +kernel
theorem dX5_changeBlock_19 : decode cX5_changeBlock 19 = .ok (.iconst 1, 1) := by decide +kernel
theorem dX5_changeBlock_20 : decode cX5_changeBlock 20 = .ok (.goto 4, 3) := by decide +kernel
theorem dX5_changeBlock_23 : decode cX5_changeBlock 23 = .ok (.iconst 0, 1) := by decide +kernel
theorem dX5_changeBlock_24 : decode cX5_changeBlock 24 = .ok (.iload_n 3, 1) := by decide +kernel
theorem dX5_changeBlock_25 : decode cX5_changeBlock 25 = .ok (.if_icmp .ne 5, 3) := by decide +kernel
theorem dX5_changeBlock_28 : decode cX5_changeBlock 28 = .ok (.iconst 0, 1) := by decide +kernel
theorem dX5_changeBlock_29 : decode cX5_changeBlock 29 = .ok (.ireturn, 1) := by decide +kernel
theorem dX5_changeBlock_30 : decode cX5_changeBlock 30 = .ok (.iload_n 3, 1) := by decide +kernel
theorem dX5_changeBlock_31 : decode cX5_changeBlock 31 = .ok (.ifCond .eq 42, 3) := by decide +kernel
theorem dX5_changeBlock_34 : decode cX5_changeBlock 34 = .ok (.aload_n 0, 1) := by decide +kernel
theorem dX5_changeBlock_35 : decode cX5_changeBlock 35 = .ok (.getfield 21, 3) := by decide +kernel
theorem dX5_changeBlock_38 : decode cX5_changeBlock 38 = .ok (.iload_n 1, 1) := by decide +kernel
theorem dX5_changeBlock_39 : decode cX5_changeBlock 39 = .ok (.iload_n 2, 1) := by decide +kernel
theorem dX5_changeBlock_40 : decode cX5_changeBlock 40 = .ok (.iconst 2, 1) := by decide +kernel
theorem dX5_changeBlock_41 : decode cX5_changeBlock 41 = .ok (.invokevirtual 62, 3) := by decide +kernel
theorem dX5_changeBlock_44 : decode cX5_changeBlock 44 = .ok (.ifCond .eq 9, 3) := by decide +kernel
theorem dX5_changeBlock_47 : decode cX5_changeBlock 47 = .ok (.aload_n 0, 1) := by decide +kernel
theorem dX5_changeBlock_48 : decode cX5_changeBlock 48 = .ok (.iload_n 1, 1) := by decide +kernel
theorem dX5_changeBlock_49 : decode cX5_changeBlock 49 = .ok (.iload_n 2, 1) := by decide +kernel
theorem dX5_changeBlock_50 : decode cX5_changeBlock 50 = .ok (.invokevirtual 78, 3) := by decide +kernel
theorem dX5_changeBlock_53 : decode cX5_changeBlock 53 = .ok (.aload_n 0, 1) := by decide +kernel
theorem dX5_changeBlock_54 : decode cX5_changeBlock 54 = .ok (.getfield 39, 3) := by decide +kernel
theorem dX5_changeBlock_57 : decode cX5_changeBlock 57 = .ok (.iload 4, 2) := by decide +kernel
theorem dX5_changeBlock_59 : decode cX5_changeBlock 59 = .ok (.iconst 1, 1) := by decide +kernel
theorem dX5_changeBlock_60 : decode cX5_changeBlock 60 = .ok (.iastore, 1) := by decide +kernel
theorem dX5_changeBlock_61 : decode cX5_changeBlock 61 = .ok (.aload_n 0, 1) := by decide +kernel
theorem dX5_changeBlock_62 : decode cX5_changeBlock 62 = .ok (.getfield 28, 3) := by decide +kernel
theorem dX5_changeBlock_65 : decode cX5_changeBlock 65 = .ok (.iload_n 1, 1) := by decide +kernel
theorem dX5_changeBlock_66 : decode cX5_changeBlock 66 = .ok (.iload_n 2, 1) := by decide +kernel
theorem dX5_changeBlock_67 : decode cX5_changeBlock 67 = .ok (.invokevirtual 81, 3) := by decide +kernel
theorem dX5_changeBlock_70 : decode cX5_changeBlock 70 = .ok (.goto 17, 3) := by decide +kernel
theorem dX5_changeBlock_73 : decode cX5_changeBlock 73 = .ok (.aload_n 0, 1) := by decide +kernel
theorem dX5_changeBlock_74 : decode cX5_changeBlock 74 = .ok (.getfield 39, 3) := by decide +kernel
theorem dX5_changeBlock_77 : decode cX5_changeBlock 77 = .ok (.iload 4, 2) := by decide +kernel
theorem dX5_changeBlock_79 : decode cX5_changeBlock 79 = .ok (.iconst 0, 1) := by decide +kernel
theorem dX5_changeBlock_80 : decode cX5_changeBlock 80 = .ok (.iastore, 1) := by decide +kernel
theorem dX5_changeBlock_81 : decode cX5_changeBlock 81 = .ok (.aload_n 0, 1) := by decide +kernel
theorem dX5_changeBlock_82 : decode cX5_changeBlock 82 = .ok (.iload_n 1, 1) := by decide +kernel
theorem dX5_changeBlock_83 : decode cX5_changeBlock 83 = .ok (.iload_n 2, 1) := by decide +kernel
theorem dX5_changeBlock_84 : decode cX5_changeBlock 84 = .ok (.invokevirtual 84, 3) := by decide +kernel
theorem dX5_changeBlock_87 : decode cX5_changeBlock 87 = .ok (.iconst 1, 1) := by decide +kernel
theorem dX5_changeBlock_88 : decode cX5_changeBlock 88 = .ok (.ireturn, 1) := by decide +kernel
set_option maxRecDepth 20000 in
theorem ggX5_greetAgain_X1_hasAny : GoodIn wsX5_greetAgain wsX1_hasAny := goodIn_r _ [7, 8, 64, 65, 66] (by decide +kernel) (by decide +kernel)
set_option maxRecDepth 20000 in
theorem gX5_greetAgain_X1_hasAny : GoodIn wsX5_greetAgain (wsV RX5 62 RX1 yX1_hasAny wsX1_hasAny) := goodIn_app (goodIn_of _ (by decide +kernel)) ggX5_greetAgain_X1_hasAny
set_option maxRecDepth 20000 in
theorem ggX5_greetAgain_X3_isThere : GoodIn wsX5_greetAgain wsX3_isThere := goodIn_r _ [13, 14, 15, 16, 12, 17, 18, 67, 68, 69] (by decide +kernel) (by decide +kernel)
set_option maxRecDepth 20000 in
theorem gX5_greetAgain_X3_isThere : GoodIn wsX5_greetAgain (wsV RX5 87 RX3 yX3_isThere wsX3_isThere) := goodIn_app (goodIn_of _ (by decide +kernel)) ggX5_greetAgain_X3_isThere
set_option maxRecDepth 20000 in
theorem ggX5_greetAgain_X5_send : GoodIn wsX5_greetAgain wsX5_send := goodIn_r _ [23, 24, 25, 26, 22, 27, 28, 29, 30, 31, 32, 33, 34, 35, 36, 37, 38, 39, 40, 41, 42, 43, 44, 45, 59, 60, 61, 62, 63, 70, 71, 72, 73] (by decide +kernel) (by decide +kernel)
set_option maxRecDepth 20000 in
theorem gX5_greetAgain_X5_send : GoodIn wsX5_greetAgain (wsV RX5 70 RX5 yX5_send wsX5_send) := goodIn_app (goodIn_of _ (by decide +kernel)) ggX5_greetAgain_X5_send
set_option maxRecDepth 20000 in
theorem ggX5_greetAgain_X5_show : GoodIn wsX5_greetAgain wsX5_show := goodIn_r _ [49, 2, 50, 51, 52, 12, 53, 18, 54, 55, 56, 57, 58, 24, 25, 26, 22, 27, 28, 29, 30, 31, 32, 33, 34, 35, 36, 37, 38, 39, 40, 41, 42, 43, 44, 45, 59, 60, 61, 62, 63, 67, 68, 69, 70, 71, 72, 73] (by decide +kernel) (by decide +kernel)
set_option maxRecDepth 20000 in
theorem gX5_greetAgain_X5_show : GoodIn wsX5_greetAgain (wsV RX5 74 RX5 yX5_show wsX5_show) := goodIn_app (goodIn_of _ (by decide +kernel)) ggX5_greetAgain_X5_show
theorem dX5_greetAgain_0 : decode cX5_greetAgain 0 = .ok (.aload_n 0, 1) := by decide +kernel
theorem dX5_greetAgain_1 : decode cX5_greetAgain 1 = .ok (.getfield 21, 3) := by decide +kernel
theorem dX5_greetAgain_4 : decode cX5_greetAgain 4 = .ok (.iload_n 1, 1) := by decide +kernel
theorem dX5_greetAgain_5 : decode cX5_greetAgain 5 = .ok (.iload_n 2, 1) := by decide +kernel
theorem dX5_greetAgain_6 : decode cX5_greetAgain 6 = .ok (.iconst 1, 1) := by decide +kernel
theorem dX5_greetAgain_7 : decode cX5_greetAgain 7 = .ok (.invokevirtual 62, 3) := by decide +kernel
theorem dX5_greetAgain_10 : decode cX5_greetAgain 10 = .ok (.ifCond .eq 22, 3) := by decide +kernel
theorem dX5_greetAgain_13 : decode cX5_greetAgain 13 = .ok (.aload_n 0, 1) := by decide +kernel
theorem dX5_greetAgain_14 : decode cX5_greetAgain 14 = .ok (.getfield 12, 3) := by decide +kernel
theorem dX5_greetAgain_17 : decode cX5_greetAgain 17 = .ok (.iload_n 1, 1) := by decide +kernel
theorem dX5_greetAgain_18 : decode cX5_greetAgain 18 = .ok (.invokevirtual 87, 3) := by decide +kernel
theorem dX5_greetAgain_21 : decode cX5_greetAgain 21 = .ok (.ifCond .eq 11, 3) := by decide +kernel
theorem dX5_greetAgain_24 : decode cX5_greetAgain 24 = .ok (.aload_n 0, 1) := by decide +kernel
theorem dX5_greetAgain_25 : decode cX5_greetAgain 25 = .ok (.bipush 6, 2) := by decide +kernel
theorem dX5_greetAgain_27 : decode cX5_greetAgain 27 = .ok (.iload_n 1, 1) := by decide +kernel
theorem dX5_greetAgain_28 : decode cX5_greetAgain 28 = .ok (.iload_n 2, 1) := by decide +kernel
theorem dX5_greetAgain_29 : decode cX5_greetAgain 29 = .ok (.invokevirtual 70, 3) := by decide +kernel
theorem dX5_greetAgain_32 : decode cX5_greetAgain 32 = .ok (.aload_n 0, 1) := by decide +kernel
theorem dX5_greetAgain_33 : decode cX5_greetAgain 33 = .ok (.getfield 21, 3) := by decide +kernel
theorem dX5_greetAgain_36 : decode cX5_greetAgain 36 = .ok (.iload_n 1, 1) := by decide +kernel
theorem dX5_greetAgain_37 : decode cX5_greetAgain 37 = .ok (.iload_n 2, 1) := by decide +kernel
theorem dX5_greetAgain_38 : decode cX5_greetAgain 38 = .ok (.iconst 2, 1) := by decide +kernel
theorem dX5_greetAgain_39 : decode cX5_greetAgain 39 = .ok (.invokevirtual 62, 3) := by decide +kernel
theorem dX5_greetAgain_42 : decode cX5_greetAgain 42 = .ok (.ifCond .eq 9, 3) := by decide +kernel
theorem dX5_greetAgain_45 : decode cX5_greetAgain 45 = .ok (.aload_n 0, 1) := by decide +kernel
theorem dX5_greetAgain_46 : decode cX5_greetAgain 46 = .ok (.iload_n 1, 1) := by decide +kernel
theorem dX5_greetAgain_47 : decode cX5_greetAgain 47 = .ok (.iload_n 2, 1) := by decide +kernel
theorem dX5_greetAgain_48 : decode cX5_greetAgain 48 = .ok (.invokevirtual 74, 3) := by decide +kernel
theorem dX5_greetAgain_51 : decode cX5_greetAgain 51 = .ok (.return_, 1) := by decide +kernel
set_option maxRecDepth 20000 in
theorem ggX5_switchOn_X3_isThere : GoodIn wsX5_switchOn wsX3_isThere := goodIn_r _ [8, 9, 10, 11, 7, 12, 13, 73, 74, 75] (by decide +kernel) (by decide +kernel)
set_option maxRecDepth 20000 in
theorem gX5_switchOn_X3_isThere : GoodIn wsX5_switchOn (wsV RX5 87 RX3 yX3_isThere wsX3_isThere) := goodIn_app (goodIn_of _ (by decide +kernel)) ggX5_switchOn_X3_isThere
set_option maxRecDepth 20000 in
theorem ggX5_switchOn_X3_set : GoodIn wsX5_switchOn wsX3_set := goodIn_r _ [17, 13, 18, 19, 73, 74, 75] (by decide +kernel) (by decide +kernel)
set_option maxRecDepth 20000 in
theorem gX5_switchOn_X3_set : GoodIn wsX5_switchOn (wsV RX5 91 RX3 yX3_set wsX3_set) := goodIn_app (goodIn_of _ (by decide +kernel)) ggX5_switchOn_X3_set
set_option maxRecDepth 20000 in
theorem ggX5_switchOn_X4_forgetAll : GoodIn wsX5_switchOn wsX4_forgetAll := goodIn_r _ [24, 25, 26, 27, 23, 28, 29, 76] (by decide +kernel) (by decide +kernel)
set_option maxRecDepth 20000 in
theorem gX5_switchOn_X4_forgetAll : GoodIn wsX5_switchOn (wsV RX5 94 RX4 yX4_forgetAll wsX4_forgetAll) := goodIn_app (goodIn_of _ (by decide +kernel)) ggX5_switchOn_X4_forgetAll
set_option maxRecDepth 20000 in
theorem ggX5_switchOn_X1_hasAny : GoodIn wsX5_switchOn wsX1_hasAny := goodIn_r _ [34, 35, 77, 78, 79] (by decide +kernel) (by decide +kernel)
set_option maxRecDepth 20000 in
theorem gX5_switchOn_X1_hasAny : GoodIn wsX5_switchOn (wsV RX5 62 RX1 yX1_hasAny wsX1_hasAny) := goodIn_app (goodIn_of _ (by decide +kernel)) ggX5_switchOn_X1_hasAny
set_option maxRecDepth 20000 in
theorem ggX5_switchOn_X5_send : GoodIn wsX5_switchOn wsX5_send := goodIn_r _ [40, 41, 42, 43, 39, 44, 45, 46, 47, 48, 49, 50, 51, 52, 53, 54, 55, 56, 57, 58, 59, 60, 61, 62, 68, 69, 70, 71, 72, 80, 81, 82, 83] (by decide +kernel) (by decide +kernel)
set_option maxRecDepth 20000 in
theorem gX5_switchOn_X5_send : GoodIn wsX5_switchOn (wsV RX5 70 RX5 yX5_send wsX5_send) := goodIn_app (goodIn_of _ (by decide +kernel)) ggX5_switchOn_X5_send
set_option maxRecDepth 20000 in
theorem ggX5_switchOn_X5_sendToSeers : GoodIn wsX5_switchOn wsX5_sendToSeers := goodIn_r _ [66, 3, 30, 31, 32, 33, 34, 35, 41, 42, 43, 39, 44, 45, 46, 47, 48, 49, 50, 51, 52, 53, 54, 55, 56, 57, 58, 59, 60, 61, 62, 68, 69, 70, 71, 72, 77, 78, 79, 80, 81, 82, 83] (by decide +kernel) (by decide +kernel)
set_option maxRecDepth 20000 in
theorem gX5_switchOn_X5_sendToSeers : GoodIn wsX5_switchOn (wsV RX5 98 RX5 yX5_sendToSeers wsX5_sendToSeers) := goodIn_app (goodIn_of _ (by decide +kernel)) ggX5_switchOn_X5_sendToSeers
set_option maxRecDepth 20000 in
theorem ggX5_switchOn_X3_onCount : GoodIn wsX5_switchOn wsX3_onCount := goodIn_r _ [12, 13, 73, 74, 75] (by decide +kernel) (by decide +kernel)
set_option maxRecDepth 20000 in
theorem gX5_switchOn_X3_onCount : GoodIn wsX5_switchOn (wsV RX5 101 RX3 yX3_onCount wsX3_onCount) := goodIn_app (goodIn_of _ (by decide +kernel)) ggX5_switchOn_X3_onCount
theorem dX5_switchOn_0 : decode cX5_switchOn 0 = .ok (.aload_n 0, 1) := by decide +kernel
theorem dX5_switchOn_1 : decode cX5_switchOn 1 = .ok (.getfield 12, 3) := by decide +kernel
theorem dX5_switchOn_4 : decode cX5_switchOn 4 = .ok (.iload_n 1, 1) := by decide +kernel
theorem dX5_switchOn_5 : decode cX5_switchOn 5 = .ok (.invokevirtual 87, 3) := by decide +kernel
theorem dX5_switchOn_8 : decode cX5_switchOn 8 = .ok (.istore 5, 2) := by decide +kernel
theorem dX5_switchOn_10 : decode cX5_switchOn 10 = .ok (.aload_n 0, 1) := by decide +kernel
theorem dX5_switchOn_11 : decode cX5_switchOn 11 = .ok (.getfield 12, 3) := by decide +kernel
theorem dX5_switchOn_14 : decode cX5_switchOn 14 = .ok (.iload_n 1, 1) := by decide +kernel
theorem dX5_switchOn_15 : decode cX5_switchOn 15 = .ok (.iload_n 2, 1) := by decide +kernel
theorem dX5_switchOn_16 : decode cX5_switchOn 16 = .ok (.iload_n 3, 1) := by decide +kernel
theorem dX5_switchOn_17 : decode cX5_switchOn 17 = .ok (.iload 4, 2) := by decide +kernel
theorem dX5_switchOn_19 : decode cX5_switchOn 19 = .ok (.invokevirtual 91, 3) := by decide +kernel
theorem dX5_switchOn_22 : decode cX5_switchOn 22 = .ok (.iload 5, 2) := by decide +kernel
theorem dX5_switchOn_24 : decode cX5_switchOn 24 = .ok (.ifCond .ne 50, 3) := by decide +kernel
theorem dX5_switchOn_27 : decode cX5_switchOn 27 = .ok (.aload_n 0, 1) := by decide +kernel
theorem dX5_switchOn_28 : decode cX5_switchOn 28 = .ok (.getfield 28, 3) := by decide +kernel
theorem dX5_switchOn_31 : decode cX5_switchOn 31 = .ok (.iload_n 1, 1) := by decide +kernel
theorem dX5_switchOn_32 : decode cX5_switchOn 32 = .ok (.invokevirtual 94, 3) := by decide +kernel
theorem dX5_switchOn_35 : decode cX5_switchOn 35 = .ok (.iconst 0, 1) := by decide +kernel
theorem dX5_switchOn_36 : decode cX5_switchOn 36 = .ok (.istore 6, 2) := by decide +kernel
theorem dX5_switchOn_38 : decode cX5_switchOn 38 = .ok (.iload 6, 2) := by decide +kernel
theorem dX5_switchOn_40 : decode cX5_switchOn 40 = .ok (.bipush 6, 2) := by decide +kernel
theorem dX5_switchOn_42 : decode cX5_switchOn 42 = .ok (.if_icmp .ge 32, 3) := by decide +kernel
theorem dX5_switchOn_45 : decode cX5_switchOn 45 = .ok (.aload_n 0, 1) := by decide +kernel
theorem dX5_switchOn_46 : decode cX5_switchOn 46 = .ok (.getfield 21, 3) := by decide +kernel
theorem dX5_switchOn_49 : decode cX5_switchOn 49 = .ok (.iload_n 1, 1) := by decide +kernel
theorem dX5_switchOn_50 : decode cX5_switchOn 50 = .ok (.iload 6, 2) := by decide +kernel
theorem dX5_switchOn_52 : decode cX5_switchOn 52 = .ok (.iconst 1, 1) := by decide +kernel
theorem dX5_switchOn_53 : decode cX5_switchOn 53 = .ok (.invokevirtual 62, 3) := by decide +kernel
theorem dX5_switchOn_56 : decode cX5_switchOn 56 = .ok (.ifCond .eq 12, 3) := by decide +kernel
theorem dX5_switchOn_59 : decode cX5_switchOn 59 = .ok (.aload_n 0, 1) := by decide +kernel
theorem dX5_switchOn_60 : decode cX5_switchOn 60 = .ok (.bipush 6, 2) := by decide +kernel
theorem dX5_switchOn_62 : decode cX5_switchOn 62 = .ok (.iload_n 1, 1) := by decide +kernel
theorem dX5_switchOn_63 : decode cX5_switchOn 63 = .ok (.iload 6, 2) := by decide +kernel
theorem dX5_switchOn_65 : decode cX5_switchOn 65 = .ok (.invokevirtual 70, 3) := by decide +kernel
theorem dX5_switchOn_68 : decode cX5_switchOn 68 = .ok (.iinc 6 1, 3) := by decide +kernel
theorem dX5_switchOn_71 : decode cX5_switchOn 71 = .ok (.goto (-33), 3) := by decide +kernel
theorem dX5_switchOn_74 : decode cX5_switchOn 74 = .ok (.aload_n 0, 1) := by decide +kernel
theorem dX5_switchOn_75 : decode cX5_switchOn 75 = .ok (.iconst 4, 1) := by decide +kernel
theorem dX5_switchOn_76 : decode cX5_switchOn 76 = .ok (.iload_n 1, 1) := by decide +kernel
theorem dX5_switchOn_77 : decode cX5_switchOn 77 = .ok (.iload_n 2, 1) := by decide +kernel
theorem dX5_switchOn_78 : decode cX5_switchOn 78 = .ok (.iload 4, 2) := by decide +kernel
theorem dX5_switchOn_80 : decode cX5_switchOn 80 = .ok (.invokevirtual 98, 3) := by decide +kernel
theorem dX5_switchOn_83 : decode cX5_switchOn 83 = .ok (.aload_n 0, 1) := by decide +kernel
theorem dX5_switchOn_84 : decode cX5_switchOn 84 = .ok (.getfield 12, 3) := by decide +kernel
theorem dX5_switchOn_87 : decode cX5_switchOn 87 = .ok (.iload_n 1, 1) := by decide +kernel
theorem dX5_switchOn_88 : decode cX5_switchOn 88 = .ok (.invokevirtual 101, 3) := by decide +kernel
theorem dX5_switchOn_91 : decode cX5_switchOn 91 = .ok (.ireturn, 1) := by decide +kernel
set_option maxRecDepth 20000 in
theorem ggX5_switchOff_X3_isOn : GoodIn wsX5_switchOff wsX3_isOn := goodIn_r _ [7, 8, 71, 72, 73] (by decide +kernel) (by decide +kernel)
set_option maxRecDepth 20000 in
theorem gX5_switchOff_X3_isOn : GoodIn wsX5_switchOff (wsV RX5 105 RX3 yX3_isOn wsX3_isOn) := goodIn_app (goodIn_of _ (by decide +kernel)) ggX5_switchOff_X3_isOn
set_option maxRecDepth 20000 in
theorem ggX5_switchOff_X3_clear : GoodIn wsX5_switchOff wsX3_clear := goodIn_r _ [12, 8, 71, 72, 73] (by decide +kernel) (by decide +kernel)
set_option maxRecDepth 20000 in
theorem gX5_switchOff_X3_clear : GoodIn wsX5_switchOff (wsV RX5 109 RX3 yX3_clear wsX3_clear) := goodIn_app (goodIn_of _ (by decide +kernel)) ggX5_switchOff_X3_clear
set_option maxRecDepth 20000 in
theorem ggX5_switchOff_X5_sendToSeers : GoodIn wsX5_switchOff wsX5_sendToSeers := goodIn_r _ [17, 18, 19, 20, 21, 22, 23, 24, 25, 26, 27, 16, 28, 29, 30, 31, 32, 33, 34, 35, 36, 37, 38, 39, 40, 41, 42, 43, 44, 45, 46, 66, 67, 68, 69, 70, 74, 75, 76, 77, 78, 79, 80] (by decide +kernel) (by decide +kernel)
set_option maxRecDepth 20000 in
theorem gX5_switchOff_X5_sendToSeers : GoodIn wsX5_switchOff (wsV RX5 98 RX5 yX5_sendToSeers wsX5_sendToSeers) := goodIn_app (goodIn_of _ (by decide +kernel)) ggX5_switchOff_X5_sendToSeers
set_option maxRecDepth 20000 in
theorem ggX5_switchOff_X3_isThere : GoodIn wsX5_switchOff wsX3_isThere := goodIn_r _ [50, 51, 52, 53, 6, 54, 8, 71, 72, 73] (by decide +kernel) (by decide +kernel)
set_option maxRecDepth 20000 in
theorem gX5_switchOff_X3_isThere : GoodIn wsX5_switchOff (wsV RX5 87 RX3 yX3_isThere wsX3_isThere) := goodIn_app (goodIn_of _ (by decide +kernel)) ggX5_switchOff_X3_isThere
set_option maxRecDepth 20000 in
theorem ggX5_switchOff_X4_forgetAll : GoodIn wsX5_switchOff wsX4_forgetAll := goodIn_r _ [59, 60, 61, 62, 58, 63, 64, 81] (by decide +kernel) (by decide +kernel)
set_option maxRecDepth 20000 in
theorem gX5_switchOff_X4_forgetAll : GoodIn wsX5_switchOff (wsV RX5 94 RX4 yX4_forgetAll wsX4_forgetAll) := goodIn_app (goodIn_of _ (by decide +kernel)) ggX5_switchOff_X4_forgetAll
set_option maxRecDepth 20000 in
theorem ggX5_switchOff_X3_onCount : GoodIn wsX5_switchOff wsX3_onCount := goodIn_r _ [54, 8, 71, 72, 73] (by decide +kernel) (by decide +kernel)
set_option maxRecDepth 20000 in
theorem gX5_switchOff_X3_onCount : GoodIn wsX5_switchOff (wsV RX5 101 RX3 yX3_onCount wsX3_onCount) := goodIn_app (goodIn_of _ (by decide +kernel)) ggX5_switchOff_X3_onCount
theorem dX5_switchOff_0 : decode cX5_switchOff 0 = .ok (.aload_n 0, 1) := by decide +kernel
theorem dX5_switchOff_1 : decode cX5_switchOff 1 = .ok (.getfield 12, 3) := by decide +kernel
theorem dX5_switchOff_4 : decode cX5_switchOff 4 = .ok (.iload_n 1, 1) := by decide +kernel
theorem dX5_switchOff_5 : decode cX5_switchOff 5 = .ok (.iload_n 2, 1) := by decide +kernel
theorem dX5_switchOff_6 : decode cX5_switchOff 6 = .ok (.invokevirtual 105, 3) := by decide +kernel
theorem dX5_switchOff_9 : decode cX5_switchOff 9 = .ok (.ifCond .ne 5, 3) := by decide +kernel
theorem dX5_switchOff_12 : decode cX5_switchOff 12 = .ok (.iconst (-1), 1) := by decide +kernel
theorem dX5_switchOff_13 : decode cX5_switchOff 13 = .ok (.ireturn, 1) := by decide +kernel
theorem dX5_switchOff_14 : decode cX5_switchOff 14 = .ok (.aload_n 0, 1) := by decide +kernel
theorem dX5_switchOff_15 : decode cX5_switchOff 15 = .ok (.getfield 12, 3) := by decide +kernel
theorem dX5_switchOff_18 : decode cX5_switchOff 18 = .ok (.iload_n 1, 1) := by decide +kernel
theorem dX5_switchOff_19 : decode cX5_switchOff 19 = .ok (.iload_n 2, 1) := by decide +kernel
theorem dX5_switchOff_20 : decode cX5_switchOff 20 = .ok (.invokevirtual 109, 3) := by decide +kernel
theorem dX5_switchOff_23 : decode cX5_switchOff 23 = .ok (.aload_n 0, 1) := by decide +kernel
theorem dX5_switchOff_24 : decode cX5_switchOff 24 = .ok (.iconst 5, 1) := by decide +kernel
theorem dX5_switchOff_25 : decode cX5_switchOff 25 = .ok (.iload_n 1, 1) := by decide +kernel
theorem dX5_switchOff_26 : decode cX5_switchOff 26 = .ok (.iload_n 2, 1) := by decide +kernel
theorem dX5_switchOff_27 : decode cX5_switchOff 27 = .ok (.iconst (-1), 1) := by decide +kernel
theorem dX5_switchOff_28 : decode cX5_switchOff 28 = .ok (.invokevirtual 98, 3) := by decide +kernel
theorem dX5_switchOff_31 : decode cX5_switchOff 31 = .ok (.aload_n 0, 1) := by decide +kernel
theorem dX5_switchOff_32 : decode cX5_switchOff 32 = .ok (.getfield 12, 3) := by decide +kernel
theorem dX5_switchOff_35 : decode cX5_switchOff 35 = .ok (.iload_n 1, 1) := by decide +kernel
theorem dX5_switchOff_36 : decode cX5_switchOff 36 = .ok (.invokevirtual 87, 3) := by decide +kernel
theorem dX5_switchOff_39 : decode cX5_switchOff 39 = .ok (.ifCond .ne 11, 3) := by decide +kernel
theorem dX5_switchOff_42 : decode cX5_switchOff 42 = .ok (.aload_n 0, 1) := by decide +kernel
theorem dX5_switchOff_43 : decode cX5_switchOff 43 = .ok (.getfield 28, 3) := by decide +kernel
theorem dX5_switchOff_46 : decode cX5_switchOff 46 = .ok (.iload_n 1, 1) := by decide +kernel
theorem dX5_switchOff_47 : decode cX5_switchOff 47 = .ok (.invokevirtual 94, 3) := by decide +kernel
theorem dX5_switchOff_50 : decode cX5_switchOff 50 = .ok (.aload_n 0, 1) := by decide +kernel
theorem dX5_switchOff_51 : decode cX5_switchOff 51 = .ok (.getfield 12, 3) := by decide +kernel
theorem dX5_switchOff_54 : decode cX5_switchOff 54 = .ok (.iload_n 1, 1) := by decide +kernel
theorem dX5_switchOff_55 : decode cX5_switchOff 55 = .ok (.invokevirtual 101, 3) := by decide +kernel
theorem dX5_switchOff_58 : decode cX5_switchOff 58 = .ok (.ireturn, 1) := by decide +kernel
set_option maxRecDepth 20000 in
theorem ggX5_letArrive_X0_takeOldest : GoodIn wsX5_letArrive wsX0_takeOldest := goodIn_r _ [7, 8, 9, 10, 11, 12, 13, 6, 14, 15, 16, 17, 18, 19, 20, 21, 22, 23, 109, 110, 111, 112] (by decide +kernel) (by decide +kernel)
set_option maxRecDepth 20000 in
theorem gX5_letArrive_X0_takeOldest : GoodIn wsX5_letArrive (wsV RX5 116 RX0 yX0_takeOldest wsX0_takeOldest) := goodIn_app (goodIn_of _ (by decide +kernel)) ggX5_letArrive_X0_takeOldest
set_option maxRecDepth 20000 in
theorem ggX5_letArrive_X5_arrive : GoodIn wsX5_letArrive wsX5_arrive := goodIn_r _ [28, 29, 30, 31, 32, 33, 6, 34, 20, 21, 22, 23, 35, 36, 37, 27, 38, 39, 40, 41, 42, 43, 44, 45, 46, 47, 48, 49, 50, 51, 52, 53, 1, 54, 55, 56, 57, 58, 59, 60, 10, 9, 15, 8, 61, 62, 63, 64, 65, 66, 67, 68, 69, 70, 71, 72, 73, 74, 75, 76, 77, 78, 79, 80, 81, 82, 83, 84, 85, 86, 87, 88, 89, 90, 91, 92, 93, 94, 95, 96, 97, 98, 99, 100, 101, 102, 103, 104, 105, 106, 107, 108, 113, 114, 115, 109, 110, 111, 112, 116, 117, 118, 119] (by decide +kernel) (by decide +kernel)
set_option maxRecDepth 20000 in
theorem gX5_letArrive_X5_arrive : GoodIn wsX5_letArrive (wsV RX5 120 RX5 yX5_arrive wsX5_arrive) := goodIn_app (goodIn_of _ (by decide +kernel)) ggX5_letArrive_X5_arrive
theorem dX5_letArrive_0 : decode cX5_letArrive 0 = .ok (.iconst 0, 1) := by decide +kernel
theorem dX5_letArrive_1 : decode cX5_letArrive 1 = .ok (.istore_n 2, 1) := by decide +kernel
theorem dX5_letArrive_2 : decode cX5_letArrive 2 = .ok (.iload_n 2, 1) := by decide +kernel
theorem dX5_letArrive_3 : decode cX5_letArrive 3 = .ok (.iload_n 1, 1) := by decide +kernel
theorem dX5_letArrive_4 : decode cX5_letArrive 4 = .ok (.if_icmp .ge 30, 3) := by decide +kernel
theorem dX5_letArrive_7 : decode cX5_letArrive 7 = .ok (.aload_n 0, 1) := by decide +kernel
theorem dX5_letArrive_8 : decode cX5_letArrive 8 = .ok (.getfield 35, 3) := by decide +kernel
theorem dX5_letArrive_11 : decode cX5_letArrive 11 = .ok (.getfield 112, 3) := by decide +kernel
theorem dX5_letArrive_14 : decode cX5_letArrive 14 = .ok (.ifCond .le 20, 3) := by decide +kernel
theorem dX5_letArrive_17 : decode cX5_letArrive 17 = .ok (.aload_n 0, 1) := by decide +kernel
theorem dX5_letArrive_18 : decode cX5_letArrive 18 = .ok (.aload_n 0, 1) := by decide +kernel
theorem dX5_letArrive_19 : decode cX5_letArrive 19 = .ok (.getfield 35, 3) := by decide +kernel
theorem dX5_letArrive_22 : decode cX5_letArrive 22 = .ok (.invokevirtual 116, 3) := by decide +kernel
theorem dX5_letArrive_25 : decode cX5_letArrive 25 = .ok (.invokevirtual 120, 3) := by decide +kernel
theorem dX5_letArrive_28 : decode cX5_letArrive 28 = .ok (.iinc 2 1, 3) := by decide +kernel
theorem dX5_letArrive_31 : decode cX5_letArrive 31 = .ok (.goto (-29), 3) := by decide +kernel
theorem dX5_letArrive_34 : decode cX5_letArrive 34 = .ok (.iload_n 2, 1) := by decide +kernel
theorem dX5_letArrive_35 : decode cX5_letArrive 35 = .ok (.ireturn, 1) := by decide +kernel
set_option maxRecDepth 20000 in
theorem ggX5_matchingPairsAtRest_X5_letArrive : GoodIn wsX5_matchingPairsAtRest wsX5_letArrive := goodIn_r _ [8, 1, 2, 9, 10, 11, 12, 13, 14, 15, 16, 17, 18, 19, 20, 21, 22, 23, 24, 25, 26, 27, 28, 29, 30, 31, 32, 7, 33, 3, 34, 35, 36, 37, 38, 39, 40, 41, 42, 43, 44, 45, 46, 47, 48, 49, 50, 51, 52, 53, 54, 55, 56, 57, 58, 59, 60, 61, 62, 63, 64, 65, 66, 67, 68, 69, 70, 71, 72, 73, 74, 75, 76, 77, 78, 79, 80, 81, 82, 83, 84, 85, 86, 87, 88, 89, 90, 91, 92, 93, 94, 95, 96, 97, 98, 99, 100, 101, 102, 103, 104, 105, 106, 107, 116, 117, 118, 119, 120, 121, 122, 123, 124, 125, 126, 127, 128, 129, 130, 131] (by decide +kernel) (by decide +kernel)
set_option maxRecDepth 20000 in
theorem gX5_matchingPairsAtRest_X5_letArrive : GoodIn wsX5_matchingPairsAtRest (wsV RX5 123 RX5 yX5_letArrive wsX5_letArrive) := goodIn_app (goodIn_of _ (by decide +kernel)) ggX5_matchingPairsAtRest_X5_letArrive
set_option maxRecDepth 20000 in
theorem ggX5_matchingPairsAtRest_X1_matchingPairs : GoodIn wsX5_matchingPairsAtRest wsX1_matchingPairs := goodIn_r _ [111, 112, 113, 114, 47, 115, 49, 125, 126, 127] (by decide +kernel) (by decide +kernel)
set_option maxRecDepth 20000 in
theorem gX5_matchingPairsAtRest_X1_matchingPairs : GoodIn wsX5_matchingPairsAtRest (wsV RX5 126 RX1 yX1_matchingPairs wsX1_matchingPairs) := goodIn_app (goodIn_of _ (by decide +kernel)) ggX5_matchingPairsAtRest_X1_matchingPairs
theorem dX5_matchingPairsAtRest_0 : decode cX5_matchingPairsAtRest 0 = .ok (.aload_n 0, 1) := by decide +kernel
theorem dX5_matchingPairsAtRest_1 : decode cX5_matchingPairsAtRest 1 = .ok (.sipush 1000, 3) := by decide +kernel
theorem dX5_matchingPairsAtRest_4 : decode cX5_matchingPairsAtRest 4 = .ok (.invokevirtual 123, 3) := by decide +kernel
theorem dX5_matchingPairsAtRest_7 : decode cX5_matchingPairsAtRest 7 = .ok (.pop, 1) := by decide +kernel
theorem dX5_matchingPairsAtRest_8 : decode cX5_matchingPairsAtRest 8 = .ok (.aload_n 0, 1) := by decide +kernel
theorem dX5_matchingPairsAtRest_9 : decode cX5_matchingPairsAtRest 9 = .ok (.getfield 35, 3) := by decide +kernel
theorem dX5_matchingPairsAtRest_12 : decode cX5_matchingPairsAtRest 12 = .ok (.getfield 112, 3) := by decide +kernel
theorem dX5_matchingPairsAtRest_15 : decode cX5_matchingPairsAtRest 15 = .ok (.ifCond .ne 13, 3) := by decide +kernel
theorem dX5_matchingPairsAtRest_18 : decode cX5_matchingPairsAtRest 18 = .ok (.aload_n 0, 1) := by decide +kernel
theorem dX5_matchingPairsAtRest_19 : decode cX5_matchingPairsAtRest 19 = .ok (.getfield 21, 3) := by decide +kernel
theorem dX5_matchingPairsAtRest_22 : decode cX5_matchingPairsAtRest 22 = .ok (.invokevirtual 126, 3) := by decide +kernel
theorem dX5_matchingPairsAtRest_25 : decode cX5_matchingPairsAtRest 25 = .ok (.goto 4, 3) := by decide +kernel
theorem dX5_matchingPairsAtRest_28 : decode cX5_matchingPairsAtRest 28 = .ok (.iconst (-1), 1) := by decide +kernel
theorem dX5_matchingPairsAtRest_29 : decode cX5_matchingPairsAtRest 29 = .ok (.ireturn, 1) := by decide +kernel
set_option maxRecDepth 20000 in
theorem ggX5_arrive_X0_part : GoodIn wsX5_arrive wsX0_part := goodIn_r _ [7, 8, 9, 10, 11] (by decide +kernel) (by decide +kernel)
set_option maxRecDepth 20000 in
theorem gX5_arrive_X0_part : GoodIn wsX5_arrive (va_wsS RX5 129 yX0_part wsX0_part) := goodIn_app (goodIn_of _ (by decide +kernel)) ggX5_arrive_X0_part
set_option maxRecDepth 20000 in
theorem ggX5_arrive_X5_apart : GoodIn wsX5_arrive wsX5_apart := goodIn_r _ [16, 17, 87, 88, 89, 90, 91] (by decide +kernel) (by decide +kernel)
set_option maxRecDepth 20000 in
theorem gX5_arrive_X5_apart : GoodIn wsX5_arrive (wsV RX5 133 RX5 yX5_apart wsX5_apart) := goodIn_app (goodIn_of _ (by decide +kernel)) ggX5_arrive_X5_apart
set_option maxRecDepth 20000 in
theorem ggX5_arrive_X1_hasAny : GoodIn wsX5_arrive wsX1_hasAny := goodIn_r _ [22, 23, 92, 93, 94] (by decide +kernel) (by decide +kernel)
set_option maxRecDepth 20000 in
theorem gX5_arrive_X1_hasAny : GoodIn wsX5_arrive (wsV RX5 62 RX1 yX1_hasAny wsX1_hasAny) := goodIn_app (goodIn_of _ (by decide +kernel)) ggX5_arrive_X1_hasAny
set_option maxRecDepth 20000 in
theorem ggX5_arrive_X5_send : GoodIn wsX5_arrive wsX5_send := goodIn_r _ [27, 28, 29, 30, 15, 31, 32, 12, 13, 14, 16, 17, 33, 34, 6, 35, 36, 37, 38, 39, 40, 41, 42, 43, 87, 88, 89, 90, 91, 95, 96, 97, 98] (by decide +kernel) (by decide +kernel)
set_option maxRecDepth 20000 in
theorem gX5_arrive_X5_send : GoodIn wsX5_arrive (wsV RX5 70 RX5 yX5_send wsX5_send) := goodIn_app (goodIn_of _ (by decide +kernel)) ggX5_arrive_X5_send
set_option maxRecDepth 20000 in
theorem ggX5_arrive_X5_show : GoodIn wsX5_arrive wsX5_show := goodIn_r _ [47, 3, 48, 49, 50, 51, 52, 53, 54, 55, 56, 57, 58, 28, 29, 30, 15, 31, 32, 12, 13, 14, 16, 17, 33, 34, 6, 35, 36, 37, 38, 39, 40, 41, 42, 43, 87, 88, 89, 90, 91, 99, 100, 101, 95, 96, 97, 98] (by decide +kernel) (by decide +kernel)
set_option maxRecDepth 20000 in
theorem gX5_arrive_X5_show : GoodIn wsX5_arrive (wsV RX5 74 RX5 yX5_show wsX5_show) := goodIn_app (goodIn_of _ (by decide +kernel)) ggX5_arrive_X5_show
set_option maxRecDepth 20000 in
theorem ggX5_arrive_X1_change : GoodIn wsX5_arrive wsX1_change := goodIn_r _ [62, 23, 63, 64, 92, 93, 94] (by decide +kernel) (by decide +kernel)
set_option maxRecDepth 20000 in
theorem gX5_arrive_X1_change : GoodIn wsX5_arrive (wsV RX5 66 RX1 yX1_change wsX1_change) := goodIn_app (goodIn_of _ (by decide +kernel)) ggX5_arrive_X1_change
set_option maxRecDepth 20000 in
theorem ggX5_arrive_X5_hide : GoodIn wsX5_arrive wsX5_hide := goodIn_r _ [68, 3, 48, 49, 50, 51, 52, 53, 28, 29, 30, 15, 31, 32, 12, 13, 14, 16, 17, 33, 34, 6, 35, 36, 37, 38, 39, 40, 41, 42, 43, 87, 88, 89, 90, 91, 99, 100, 101, 95, 96, 97, 98] (by decide +kernel) (by decide +kernel)
set_option maxRecDepth 20000 in
theorem gX5_arrive_X5_hide : GoodIn wsX5_arrive (wsV RX5 78 RX5 yX5_hide wsX5_hide) := goodIn_app (goodIn_of _ (by decide +kernel)) ggX5_arrive_X5_hide
set_option maxRecDepth 20000 in
theorem ggX5_arrive_X4_forget : GoodIn wsX5_arrive wsX4_forget := goodIn_r _ [73, 74, 102] (by decide +kernel) (by decide +kernel)
set_option maxRecDepth 20000 in
theorem gX5_arrive_X4_forget : GoodIn wsX5_arrive (wsV RX5 81 RX4 yX4_forget wsX4_forget) := goodIn_app (goodIn_of _ (by decide +kernel)) ggX5_arrive_X4_forget
set_option maxRecDepth 20000 in
theorem ggX5_arrive_X3_isThere : GoodIn wsX5_arrive wsX3_isThere := goodIn_r _ [78, 79, 80, 81, 51, 82, 53, 99, 100, 101] (by decide +kernel) (by decide +kernel)
set_option maxRecDepth 20000 in
theorem gX5_arrive_X3_isThere : GoodIn wsX5_arrive (wsV RX5 87 RX3 yX3_isThere wsX3_isThere) := goodIn_app (goodIn_of _ (by decide +kernel)) ggX5_arrive_X3_isThere
set_option maxRecDepth 20000 in
theorem ggX5_arrive_X4_set : GoodIn wsX5_arrive wsX4_set := goodIn_r _ [86, 74, 102] (by decide +kernel) (by decide +kernel)
set_option maxRecDepth 20000 in
theorem gX5_arrive_X4_set : GoodIn wsX5_arrive (wsV RX5 136 RX4 yX4_set wsX4_set) := goodIn_app (goodIn_of _ (by decide +kernel)) ggX5_arrive_X4_set
theorem dX5_arrive_0 : decode cX5_arrive 0 = .ok (.iload_n 1, 1) := by decide +kernel
theorem dX5_arrive_1 : decode cX5_arrive 1 = .ok (.iconst 1, 1) := by decide +kernel
theorem dX5_arrive_2 : decode cX5_arrive 2 = .ok (.invokestatic 129, 3) := by decide +kernel
theorem dX5_arrive_5 : decode cX5_arrive 5 = .ok (.istore_n 2, 1) := by decide +kernel
theorem dX5_arrive_6 : decode cX5_arrive 6 = .ok (.iload_n 1, 1) := by decide +kernel
theorem dX5_arrive_7 : decode cX5_arrive 7 = .ok (.iconst 2, 1) := by decide +kernel
theorem dX5_arrive_8 : decode cX5_arrive 8 = .ok (.invokestatic 129, 3) := by decide +kernel
theorem dX5_arrive_11 : decode cX5_arrive 11 = .ok (.istore_n 3, 1) := by decide +kernel
theorem dX5_arrive_12 : decode cX5_arrive 12 = .ok (.aload_n 0, 1) := by decide +kernel
theorem dX5_arrive_13 : decode cX5_arrive 13 = .ok (.iload_n 2, 1) := by decide +kernel
theorem dX5_arrive_14 : decode cX5_arrive 14 = .ok (.iload_n 3, 1) := by decide +kernel
theorem dX5_arrive_15 : decode cX5_arrive 15 = .ok (.invokevirtual 133, 3) := by decide +kernel
theorem dX5_arrive_18 : decode cX5_arrive 18 = .ok (.ifCond .eq 4, 3) := by decide +kernel
theorem dX5_arrive_21 : decode cX5_arrive 21 = .ok (.return_, 1) := by decide +kernel
theorem dX5_arrive_22 : decode cX5_arrive 22 = .ok (.iload_n 1, 1) := by decide +kernel
theorem dX5_arrive_23 : decode cX5_arrive 23 = .ok (.iconst 0, 1) := by decide +kernel
theorem dX5_arrive_24 : decode cX5_arrive 24 = .ok (.invokestatic 129, 3) := by decide +kernel
theorem dX5_arrive_27 : decode cX5_arrive 27 = .ok (.tableswitch 230 0 5 #[37, 81, 108, 143, 166, 212], 37) := by decide +kernel
theorem dX5_arrive_64 : decode cX5_arrive 64 = .ok (.aload_n 0, 1) := by decide +kernel
theorem dX5_arrive_65 : decode cX5_arrive 65 = .ok (.getfield 21, 3) := by decide +kernel
theorem dX5_arrive_68 : decode cX5_arrive 68 = .ok (.iload_n 3, 1) := by decide +kernel
theorem dX5_arrive_69 : decode cX5_arrive 69 = .ok (.iload_n 2, 1) := by decide +kernel
theorem dX5_arrive_70 : decode cX5_arrive 70 = .ok (.iconst 2, 1) := by decide +kernel
theorem dX5_arrive_71 : decode cX5_arrive 71 = .ok (.invokevirtual 62, 3) := by decide +kernel
theorem dX5_arrive_74 : decode cX5_arrive 74 = .ok (.ifCond .eq 19, 3) := by decide +kernel
theorem dX5_arrive_77 : decode cX5_arrive 77 = .ok (.aload_n 0, 1) := by decide +kernel
theorem dX5_arrive_78 : decode cX5_arrive 78 = .ok (.iconst 1, 1) := by decide +kernel
theorem dX5_arrive_79 : decode cX5_arrive 79 = .ok (.iload_n 3, 1) := by decide +kernel
theorem dX5_arrive_80 : decode cX5_arrive 80 = .ok (.iload_n 2, 1) := by decide +kernel
theorem dX5_arrive_81 : decode cX5_arrive 81 = .ok (.invokevirtual 70, 3) := by decide +kernel
theorem dX5_arrive_84 : decode cX5_arrive 84 = .ok (.aload_n 0, 1) := by decide +kernel
theorem dX5_arrive_85 : decode cX5_arrive 85 = .ok (.iload_n 3, 1) := by decide +kernel
theorem dX5_arrive_86 : decode cX5_arrive 86 = .ok (.iload_n 2, 1) := by decide +kernel
theorem dX5_arrive_87 : decode cX5_arrive 87 = .ok (.invokevirtual 74, 3) := by decide +kernel
theorem dX5_arrive_90 : decode cX5_arrive 90 = .ok (.goto 196, 3) := by decide +kernel
theorem dX5_arrive_93 : decode cX5_arrive 93 = .ok (.aload_n 0, 1) := by decide +kernel
theorem dX5_arrive_94 : decode cX5_arrive 94 = .ok (.getfield 21, 3) := by decide +kernel
theorem dX5_arrive_97 : decode cX5_arrive 97 = .ok (.iload_n 3, 1) := by decide +kernel
theorem dX5_arrive_98 : decode cX5_arrive 98 = .ok (.iload_n 2, 1) := by decide +kernel
theorem dX5_arrive_99 : decode cX5_arrive 99 = .ok (.iconst 0, 1) := by decide +kernel
theorem dX5_arrive_100 : decode cX5_arrive 100 = .ok (.bipush 8, 2) := by decide +kernel
theorem dX5_arrive_102 : decode cX5_arrive 102 = .ok (.invokevirtual 66, 3) := by decide +kernel
theorem dX5_arrive_105 : decode cX5_arrive 105 = .ok (.goto 181, 3) := by decide +kernel
theorem dX5_arrive_108 : decode cX5_arrive 108 = .ok (.aload_n 0, 1) := by decide +kernel
theorem dX5_arrive_109 : decode cX5_arrive 109 = .ok (.getfield 21, 3) := by decide +kernel
theorem dX5_arrive_112 : decode cX5_arrive 112 = .ok (.iload_n 3, 1) := by decide +kernel
theorem dX5_arrive_113 : decode cX5_arrive 113 = .ok (.iload_n 2, 1) := by decide +kernel
theorem dX5_arrive_114 : decode cX5_arrive 114 = .ok (.iconst 4, 1) := by decide +kernel
theorem dX5_arrive_115 : decode cX5_arrive 115 = .ok (.invokevirtual 62, 3) := by decide +kernel
theorem dX5_arrive_118 : decode cX5_arrive 118 = .ok (.ifCond .eq 168, 3) := by decide +kernel
theorem dX5_arrive_121 : decode cX5_arrive 121 = .ok (.aload_n 0, 1) := by decide +kernel
theorem dX5_arrive_122 : decode cX5_arrive 122 = .ok (.getfield 21, 3) := by decide +kernel
theorem dX5_arrive_125 : decode cX5_arrive 125 = .ok (.iload_n 3, 1) := by decide +kernel
theorem dX5_arrive_126 : decode cX5_arrive 126 = .ok (.iload_n 2, 1) := by decide +kernel
theorem dX5_arrive_127 : decode cX5_arrive 127 = .ok (.iconst 4, 1) := by decide +kernel
theorem dX5_arrive_128 : decode cX5_arrive 128 = .ok (.iconst 1, 1) := by decide +kernel
theorem dX5_arrive_129 : decode cX5_arrive 129 = .ok (.invokevirtual 66, 3) := by decide +kernel
theorem dX5_arrive_132 : decode cX5_arrive 132 = .ok (.goto 154, 3) := by decide +kernel
theorem dX5_arrive_135 : decode cX5_arrive 135 = .ok (.aload_n 0, 1) := by decide +kernel
theorem dX5_arrive_136 : decode cX5_arrive 136 = .ok (.getfield 21, 3) := by decide +kernel
theorem dX5_arrive_139 : decode cX5_arrive 139 = .ok (.iload_n 3, 1) := by decide +kernel
theorem dX5_arrive_140 : decode cX5_arrive 140 = .ok (.iload_n 2, 1) := by decide +kernel
theorem dX5_arrive_141 : decode cX5_arrive 141 = .ok (.bipush 10, 2) := by decide +kernel
theorem dX5_arrive_143 : decode cX5_arrive 143 = .ok (.invokevirtual 62, 3) := by decide +kernel
theorem dX5_arrive_146 : decode cX5_arrive 146 = .ok (.ifCond .eq 140, 3) := by decide +kernel
theorem dX5_arrive_149 : decode cX5_arrive 149 = .ok (.aload_n 0, 1) := by decide +kernel
theorem dX5_arrive_150 : decode cX5_arrive 150 = .ok (.getfield 21, 3) := by decide +kernel
theorem dX5_arrive_153 : decode cX5_arrive 153 = .ok (.iload_n 3, 1) := by decide +kernel
theorem dX5_arrive_154 : decode cX5_arrive 154 = .ok (.iload_n 2, 1) := by decide +kernel
theorem dX5_arrive_155 : decode cX5_arrive 155 = .ok (.bipush 10, 2) := by decide +kernel
theorem dX5_arrive_157 : decode cX5_arrive 157 = .ok (.iconst 0, 1) := by decide +kernel
theorem dX5_arrive_158 : decode cX5_arrive 158 = .ok (.invokevirtual 66, 3) := by decide +kernel
theorem dX5_arrive_161 : decode cX5_arrive 161 = .ok (.aload_n 0, 1) := by decide +kernel
theorem dX5_arrive_162 : decode cX5_arrive 162 = .ok (.iload_n 3, 1) := by decide +kernel
theorem dX5_arrive_163 : decode cX5_arrive 163 = .ok (.iload_n 2, 1) := by decide +kernel
theorem dX5_arrive_164 : decode cX5_arrive 164 = .ok (.invokevirtual 78, 3) := by decide +kernel
theorem dX5_arrive_167 : decode cX5_arrive 167 = .ok (.goto 119, 3) := by decide +kernel
theorem dX5_arrive_170 : decode cX5_arrive 170 = .ok (.aload_n 0, 1) := by decide +kernel
theorem dX5_arrive_171 : decode cX5_arrive 171 = .ok (.getfield 21, 3) := by decide +kernel
theorem dX5_arrive_174 : decode cX5_arrive 174 = .ok (.iload_n 3, 1) := by decide +kernel
theorem dX5_arrive_175 : decode cX5_arrive 175 = .ok (.iload_n 2, 1) := by decide +kernel
theorem dX5_arrive_176 : decode cX5_arrive 176 = .ok (.iconst 5, 1) := by decide +kernel
theorem dX5_arrive_177 : decode cX5_arrive 177 = .ok (.iconst 0, 1) := by decide +kernel
theorem dX5_arrive_178 : decode cX5_arrive 178 = .ok (.invokevirtual 66, 3) := by decide +kernel
theorem dX5_arrive_181 : decode cX5_arrive 181 = .ok (.aload_n 0, 1) := by decide +kernel
theorem dX5_arrive_182 : decode cX5_arrive 182 = .ok (.getfield 28, 3) := by decide +kernel
theorem dX5_arrive_185 : decode cX5_arrive 185 = .ok (.iload_n 3, 1) := by decide +kernel
theorem dX5_arrive_186 : decode cX5_arrive 186 = .ok (.iload_n 2, 1) := by decide +kernel
theorem dX5_arrive_187 : decode cX5_arrive 187 = .ok (.invokevirtual 81, 3) := by decide +kernel
theorem dX5_arrive_190 : decode cX5_arrive 190 = .ok (.goto 96, 3) := by decide +kernel
theorem dX5_arrive_193 : decode cX5_arrive 193 = .ok (.aload_n 0, 1) := by decide +kernel
theorem dX5_arrive_194 : decode cX5_arrive 194 = .ok (.getfield 21, 3) := by decide +kernel
theorem dX5_arrive_197 : decode cX5_arrive 197 = .ok (.iload_n 3, 1) := by decide +kernel
theorem dX5_arrive_198 : decode cX5_arrive 198 = .ok (.iload_n 2, 1) := by decide +kernel
theorem dX5_arrive_199 : decode cX5_arrive 199 = .ok (.iconst 1, 1) := by decide +kernel
theorem dX5_arrive_200 : decode cX5_arrive 200 = .ok (.invokevirtual 62, 3) := by decide +kernel
theorem dX5_arrive_203 : decode cX5_arrive 203 = .ok (.ifCond .eq 83, 3) := by decide +kernel
theorem dX5_arrive_206 : decode cX5_arrive 206 = .ok (.aload_n 0, 1) := by decide +kernel
theorem dX5_arrive_207 : decode cX5_arrive 207 = .ok (.getfield 12, 3) := by decide +kernel
theorem dX5_arrive_210 : decode cX5_arrive 210 = .ok (.iload_n 3, 1) := by decide +kernel
theorem dX5_arrive_211 : decode cX5_arrive 211 = .ok (.invokevirtual 87, 3) := by decide +kernel
theorem dX5_arrive_214 : decode cX5_arrive 214 = .ok (.ifCond .eq 72, 3) := by decide +kernel
theorem dX5_arrive_217 : decode cX5_arrive 217 = .ok (.aload_n 0, 1) := by decide +kernel
theorem dX5_arrive_218 : decode cX5_arrive 218 = .ok (.getfield 28, 3) := by decide +kernel
theorem dX5_arrive_221 : decode cX5_arrive 221 = .ok (.iload_n 3, 1) := by decide +kernel
theorem dX5_arrive_222 : decode cX5_arrive 222 = .ok (.iload_n 2, 1) := by decide +kernel
theorem dX5_arrive_223 : decode cX5_arrive 223 = .ok (.iload_n 1, 1) := by decide +kernel
theorem dX5_arrive_224 : decode cX5_arrive 224 = .ok (.iconst 3, 1) := by decide +kernel
theorem dX5_arrive_225 : decode cX5_arrive 225 = .ok (.invokestatic 129, 3) := by decide +kernel
theorem dX5_arrive_228 : decode cX5_arrive 228 = .ok (.iload_n 1, 1) := by decide +kernel
theorem dX5_arrive_229 : decode cX5_arrive 229 = .ok (.iconst 4, 1) := by decide +kernel
theorem dX5_arrive_230 : decode cX5_arrive 230 = .ok (.invokestatic 129, 3) := by decide +kernel
theorem dX5_arrive_233 : decode cX5_arrive 233 = .ok (.invokevirtual 136, 3) := by decide +kernel
theorem dX5_arrive_236 : decode cX5_arrive 236 = .ok (.goto 50, 3) := by decide +kernel
theorem dX5_arrive_239 : decode cX5_arrive 239 = .ok (.aload_n 0, 1) := by decide +kernel
theorem dX5_arrive_240 : decode cX5_arrive 240 = .ok (.getfield 28, 3) := by decide +kernel
theorem dX5_arrive_243 : decode cX5_arrive 243 = .ok (.iload_n 3, 1) := by decide +kernel
theorem dX5_arrive_244 : decode cX5_arrive 244 = .ok (.iload_n 2, 1) := by decide +kernel
theorem dX5_arrive_245 : decode cX5_arrive 245 = .ok (.iload_n 1, 1) := by decide +kernel
theorem dX5_arrive_246 : decode cX5_arrive 246 = .ok (.iconst 3, 1) := by decide +kernel
theorem dX5_arrive_247 : decode cX5_arrive 247 = .ok (.invokestatic 129, 3) := by decide +kernel
theorem dX5_arrive_250 : decode cX5_arrive 250 = .ok (.iconst (-1), 1) := by decide +kernel
theorem dX5_arrive_251 : decode cX5_arrive 251 = .ok (.invokevirtual 136, 3) := by decide +kernel
theorem dX5_arrive_254 : decode cX5_arrive 254 = .ok (.goto 32, 3) := by decide +kernel
theorem dX5_arrive_257 : decode cX5_arrive 257 = .ok (.aload_n 0, 1) := by decide +kernel
theorem dX5_arrive_258 : decode cX5_arrive 258 = .ok (.getfield 21, 3) := by decide +kernel
theorem dX5_arrive_261 : decode cX5_arrive 261 = .ok (.iload_n 3, 1) := by decide +kernel
theorem dX5_arrive_262 : decode cX5_arrive 262 = .ok (.iload_n 2, 1) := by decide +kernel
theorem dX5_arrive_263 : decode cX5_arrive 263 = .ok (.iconst 2, 1) := by decide +kernel
theorem dX5_arrive_264 : decode cX5_arrive 264 = .ok (.invokevirtual 62, 3) := by decide +kernel
theorem dX5_arrive_267 : decode cX5_arrive 267 = .ok (.ifCond .eq 12, 3) := by decide +kernel
theorem dX5_arrive_270 : decode cX5_arrive 270 = .ok (.aload_n 0, 1) := by decide +kernel
theorem dX5_arrive_271 : decode cX5_arrive 271 = .ok (.iload_n 3, 1) := by decide +kernel
theorem dX5_arrive_272 : decode cX5_arrive 272 = .ok (.iload_n 2, 1) := by decide +kernel
theorem dX5_arrive_273 : decode cX5_arrive 273 = .ok (.invokevirtual 74, 3) := by decide +kernel
theorem dX5_arrive_276 : decode cX5_arrive 276 = .ok (.goto 10, 3) := by decide +kernel
theorem dX5_arrive_279 : decode cX5_arrive 279 = .ok (.aload_n 0, 1) := by decide +kernel
theorem dX5_arrive_280 : decode cX5_arrive 280 = .ok (.iconst 3, 1) := by decide +kernel
theorem dX5_arrive_281 : decode cX5_arrive 281 = .ok (.iload_n 3, 1) := by decide +kernel
theorem dX5_arrive_282 : decode cX5_arrive 282 = .ok (.iload_n 2, 1) := by decide +kernel
theorem dX5_arrive_283 : decode cX5_arrive 283 = .ok (.invokevirtual 70, 3) := by decide +kernel
theorem dX5_arrive_286 : decode cX5_arrive 286 = .ok (.return_, 1) := by decide +kernel
set_option maxRecDepth 20000 in
theorem ggX5_show_X3_isOn : GoodIn wsX5_show wsX3_isOn := goodIn_r _ [6, 7, 41, 42, 43] (by decide +kernel) (by decide +kernel)
set_option maxRecDepth 20000 in
theorem gX5_show_X3_isOn : GoodIn wsX5_show (wsV RX5 105 RX3 yX3_isOn wsX3_isOn) := goodIn_app (goodIn_of _ (by decide +kernel)) ggX5_show_X3_isOn
set_option maxRecDepth 20000 in
theorem ggX5_show_X3_moodOf : GoodIn wsX5_show wsX3_moodOf := goodIn_r _ [11, 12, 41, 42, 43] (by decide +kernel) (by decide +kernel)
set_option maxRecDepth 20000 in
theorem gX5_show_X3_moodOf : GoodIn wsX5_show (wsV RX5 137 RX3 yX3_moodOf wsX3_moodOf) := goodIn_app (goodIn_of _ (by decide +kernel)) ggX5_show_X3_moodOf
set_option maxRecDepth 20000 in
theorem ggX5_show_X5_sendOfSeat : GoodIn wsX5_show wsX5_sendOfSeat := goodIn_r _ [17, 18, 19, 20, 21, 16, 22, 23, 24, 25, 26, 27, 28, 29, 30, 31, 32, 33, 34, 35, 36, 37, 38, 39, 40, 44, 45, 46, 47] (by decide +kernel) (by decide +kernel)
set_option maxRecDepth 20000 in
theorem gX5_show_X5_sendOfSeat : GoodIn wsX5_show (wsV RX5 140 RX5 yX5_sendOfSeat wsX5_sendOfSeat) := goodIn_app (goodIn_of _ (by decide +kernel)) ggX5_show_X5_sendOfSeat
theorem dX5_show_0 : decode cX5_show 0 = .ok (.iconst 0, 1) := by decide +kernel
theorem dX5_show_1 : decode cX5_show 1 = .ok (.istore_n 3, 1) := by decide +kernel
theorem dX5_show_2 : decode cX5_show 2 = .ok (.iload_n 3, 1) := by decide +kernel
theorem dX5_show_3 : decode cX5_show 3 = .ok (.iconst 3, 1) := by decide +kernel
theorem dX5_show_4 : decode cX5_show 4 = .ok (.if_icmp .ge 38, 3) := by decide +kernel
theorem dX5_show_7 : decode cX5_show 7 = .ok (.aload_n 0, 1) := by decide +kernel
theorem dX5_show_8 : decode cX5_show 8 = .ok (.getfield 12, 3) := by decide +kernel
theorem dX5_show_11 : decode cX5_show 11 = .ok (.iload_n 1, 1) := by decide +kernel
theorem dX5_show_12 : decode cX5_show 12 = .ok (.iload_n 3, 1) := by decide +kernel
theorem dX5_show_13 : decode cX5_show 13 = .ok (.invokevirtual 105, 3) := by decide +kernel
theorem dX5_show_16 : decode cX5_show 16 = .ok (.ifCond .eq 20, 3) := by decide +kernel
theorem dX5_show_19 : decode cX5_show 19 = .ok (.aload_n 0, 1) := by decide +kernel
theorem dX5_show_20 : decode cX5_show 20 = .ok (.iconst 4, 1) := by decide +kernel
theorem dX5_show_21 : decode cX5_show 21 = .ok (.iload_n 1, 1) := by decide +kernel
theorem dX5_show_22 : decode cX5_show 22 = .ok (.iload_n 2, 1) := by decide +kernel
theorem dX5_show_23 : decode cX5_show 23 = .ok (.iload_n 3, 1) := by decide +kernel
theorem dX5_show_24 : decode cX5_show 24 = .ok (.aload_n 0, 1) := by decide +kernel
theorem dX5_show_25 : decode cX5_show 25 = .ok (.getfield 12, 3) := by decide +kernel
theorem dX5_show_28 : decode cX5_show 28 = .ok (.iload_n 1, 1) := by decide +kernel
theorem dX5_show_29 : decode cX5_show 29 = .ok (.iload_n 3, 1) := by decide +kernel
theorem dX5_show_30 : decode cX5_show 30 = .ok (.invokevirtual 137, 3) := by decide +kernel
theorem dX5_show_33 : decode cX5_show 33 = .ok (.invokevirtual 140, 3) := by decide +kernel
theorem dX5_show_36 : decode cX5_show 36 = .ok (.iinc 3 1, 3) := by decide +kernel
theorem dX5_show_39 : decode cX5_show 39 = .ok (.goto (-37), 3) := by decide +kernel
theorem dX5_show_42 : decode cX5_show 42 = .ok (.return_, 1) := by decide +kernel
set_option maxRecDepth 20000 in
theorem ggX5_hide_X3_isOn : GoodIn wsX5_hide wsX3_isOn := goodIn_r _ [6, 7, 36, 37, 38] (by decide +kernel) (by decide +kernel)
set_option maxRecDepth 20000 in
theorem gX5_hide_X3_isOn : GoodIn wsX5_hide (wsV RX5 105 RX3 yX3_isOn wsX3_isOn) := goodIn_app (goodIn_of _ (by decide +kernel)) ggX5_hide_X3_isOn
set_option maxRecDepth 20000 in
theorem ggX5_hide_X5_sendOfSeat : GoodIn wsX5_hide wsX5_sendOfSeat := goodIn_r _ [12, 13, 14, 15, 16, 11, 17, 18, 19, 20, 21, 22, 23, 24, 25, 26, 27, 28, 29, 30, 31, 32, 33, 34, 35, 39, 40, 41, 42] (by decide +kernel) (by decide +kernel)
set_option maxRecDepth 20000 in
theorem gX5_hide_X5_sendOfSeat : GoodIn wsX5_hide (wsV RX5 140 RX5 yX5_sendOfSeat wsX5_sendOfSeat) := goodIn_app (goodIn_of _ (by decide +kernel)) ggX5_hide_X5_sendOfSeat
theorem dX5_hide_0 : decode cX5_hide 0 = .ok (.iconst 0, 1) := by decide +kernel
theorem dX5_hide_1 : decode cX5_hide 1 = .ok (.istore_n 3, 1) := by decide +kernel
theorem dX5_hide_2 : decode cX5_hide 2 = .ok (.iload_n 3, 1) := by decide +kernel
theorem dX5_hide_3 : decode cX5_hide 3 = .ok (.iconst 3, 1) := by decide +kernel
theorem dX5_hide_4 : decode cX5_hide 4 = .ok (.if_icmp .ge 30, 3) := by decide +kernel
theorem dX5_hide_7 : decode cX5_hide 7 = .ok (.aload_n 0, 1) := by decide +kernel
theorem dX5_hide_8 : decode cX5_hide 8 = .ok (.getfield 12, 3) := by decide +kernel
theorem dX5_hide_11 : decode cX5_hide 11 = .ok (.iload_n 1, 1) := by decide +kernel
theorem dX5_hide_12 : decode cX5_hide 12 = .ok (.iload_n 3, 1) := by decide +kernel
theorem dX5_hide_13 : decode cX5_hide 13 = .ok (.invokevirtual 105, 3) := by decide +kernel
theorem dX5_hide_16 : decode cX5_hide 16 = .ok (.ifCond .eq 12, 3) := by decide +kernel
theorem dX5_hide_19 : decode cX5_hide 19 = .ok (.aload_n 0, 1) := by decide +kernel
theorem dX5_hide_20 : decode cX5_hide 20 = .ok (.iconst 5, 1) := by decide +kernel
theorem dX5_hide_21 : decode cX5_hide 21 = .ok (.iload_n 1, 1) := by decide +kernel
theorem dX5_hide_22 : decode cX5_hide 22 = .ok (.iload_n 2, 1) := by decide +kernel
theorem dX5_hide_23 : decode cX5_hide 23 = .ok (.iload_n 3, 1) := by decide +kernel
theorem dX5_hide_24 : decode cX5_hide 24 = .ok (.iconst (-1), 1) := by decide +kernel
theorem dX5_hide_25 : decode cX5_hide 25 = .ok (.invokevirtual 140, 3) := by decide +kernel
theorem dX5_hide_28 : decode cX5_hide 28 = .ok (.iinc 3 1, 3) := by decide +kernel
theorem dX5_hide_31 : decode cX5_hide 31 = .ok (.goto (-29), 3) := by decide +kernel
theorem dX5_hide_34 : decode cX5_hide 34 = .ok (.return_, 1) := by decide +kernel
set_option maxRecDepth 20000 in
theorem ggX5_sendToSeers_X1_hasAny : GoodIn wsX5_sendToSeers wsX1_hasAny := goodIn_r _ [6, 7, 36, 37, 38] (by decide +kernel) (by decide +kernel)
set_option maxRecDepth 20000 in
theorem gX5_sendToSeers_X1_hasAny : GoodIn wsX5_sendToSeers (wsV RX5 62 RX1 yX1_hasAny wsX1_hasAny) := goodIn_app (goodIn_of _ (by decide +kernel)) ggX5_sendToSeers_X1_hasAny
set_option maxRecDepth 20000 in
theorem ggX5_sendToSeers_X5_sendOfSeat : GoodIn wsX5_sendToSeers wsX5_sendOfSeat := goodIn_r _ [12, 13, 14, 15, 16, 11, 17, 18, 19, 20, 21, 22, 23, 24, 25, 26, 27, 28, 29, 30, 31, 32, 33, 34, 35, 39, 40, 41, 42] (by decide +kernel) (by decide +kernel)
set_option maxRecDepth 20000 in
theorem gX5_sendToSeers_X5_sendOfSeat : GoodIn wsX5_sendToSeers (wsV RX5 140 RX5 yX5_sendOfSeat wsX5_sendOfSeat) := goodIn_app (goodIn_of _ (by decide +kernel)) ggX5_sendToSeers_X5_sendOfSeat
theorem dX5_sendToSeers_0 : decode cX5_sendToSeers 0 = .ok (.iconst 0, 1) := by decide +kernel
theorem dX5_sendToSeers_1 : decode cX5_sendToSeers 1 = .ok (.istore 5, 2) := by decide +kernel
theorem dX5_sendToSeers_3 : decode cX5_sendToSeers 3 = .ok (.iload 5, 2) := by decide +kernel
theorem dX5_sendToSeers_5 : decode cX5_sendToSeers 5 = .ok (.bipush 6, 2) := by decide +kernel
theorem dX5_sendToSeers_7 : decode cX5_sendToSeers 7 = .ok (.if_icmp .ge 34, 3) := by decide +kernel
theorem dX5_sendToSeers_10 : decode cX5_sendToSeers 10 = .ok (.aload_n 0, 1) := by decide +kernel
theorem dX5_sendToSeers_11 : decode cX5_sendToSeers 11 = .ok (.getfield 21, 3) := by decide +kernel
theorem dX5_sendToSeers_14 : decode cX5_sendToSeers 14 = .ok (.iload_n 2, 1) := by decide +kernel
theorem dX5_sendToSeers_15 : decode cX5_sendToSeers 15 = .ok (.iload 5, 2) := by decide +kernel
theorem dX5_sendToSeers_17 : decode cX5_sendToSeers 17 = .ok (.iconst 2, 1) := by decide +kernel
theorem dX5_sendToSeers_18 : decode cX5_sendToSeers 18 = .ok (.invokevirtual 62, 3) := by decide +kernel
theorem dX5_sendToSeers_21 : decode cX5_sendToSeers 21 = .ok (.ifCond .eq 14, 3) := by decide +kernel
theorem dX5_sendToSeers_24 : decode cX5_sendToSeers 24 = .ok (.aload_n 0, 1) := by decide +kernel
theorem dX5_sendToSeers_25 : decode cX5_sendToSeers 25 = .ok (.iload_n 1, 1) := by decide +kernel
theorem dX5_sendToSeers_26 : decode cX5_sendToSeers 26 = .ok (.iload_n 2, 1) := by decide +kernel
theorem dX5_sendToSeers_27 : decode cX5_sendToSeers 27 = .ok (.iload 5, 2) := by decide +kernel
theorem dX5_sendToSeers_29 : decode cX5_sendToSeers 29 = .ok (.iload_n 3, 1) := by decide +kernel
theorem dX5_sendToSeers_30 : decode cX5_sendToSeers 30 = .ok (.iload 4, 2) := by decide +kernel
theorem dX5_sendToSeers_32 : decode cX5_sendToSeers 32 = .ok (.invokevirtual 140, 3) := by decide +kernel
theorem dX5_sendToSeers_35 : decode cX5_sendToSeers 35 = .ok (.iinc 5 1, 3) := by decide +kernel
theorem dX5_sendToSeers_38 : decode cX5_sendToSeers 38 = .ok (.goto (-35), 3) := by decide +kernel
theorem dX5_sendToSeers_41 : decode cX5_sendToSeers 41 = .ok (.return_, 1) := by decide +kernel
set_option maxRecDepth 20000 in
theorem ggX5_send_X5_sendOfSeat : GoodIn wsX5_send wsX5_sendOfSeat := goodIn_r _ [5, 6, 7, 8, 9, 4, 10, 11, 12, 13, 14, 15, 16, 17, 18, 19, 20, 21, 22, 23, 24, 25, 26, 27, 28, 29, 30, 31, 32] (by decide +kernel) (by decide +kernel)
set_option maxRecDepth 20000 in
theorem gX5_send_X5_sendOfSeat : GoodIn wsX5_send (wsV RX5 140 RX5 yX5_sendOfSeat wsX5_sendOfSeat) := goodIn_app (goodIn_of _ (by decide +kernel)) ggX5_send_X5_sendOfSeat
theorem dX5_send_0 : decode cX5_send 0 = .ok (.aload_n 0, 1) := by decide +kernel
theorem dX5_send_1 : decode cX5_send 1 = .ok (.iload_n 1, 1) := by decide +kernel
theorem dX5_send_2 : decode cX5_send 2 = .ok (.iload_n 2, 1) := by decide +kernel
theorem dX5_send_3 : decode cX5_send 3 = .ok (.iload_n 3, 1) := by decide +kernel
theorem dX5_send_4 : decode cX5_send 4 = .ok (.iconst (-1), 1) := by decide +kernel
theorem dX5_send_5 : decode cX5_send 5 = .ok (.iconst (-1), 1) := by decide +kernel
theorem dX5_send_6 : decode cX5_send 6 = .ok (.invokevirtual 140, 3) := by decide +kernel
theorem dX5_send_9 : decode cX5_send 9 = .ok (.return_, 1) := by decide +kernel
set_option maxRecDepth 20000 in
theorem ggX5_sendOfSeat_X5_apart : GoodIn wsX5_sendOfSeat wsX5_apart := goodIn_r _ [6, 7, 20, 21, 22, 23, 24] (by decide +kernel) (by decide +kernel)
set_option maxRecDepth 20000 in
theorem gX5_sendOfSeat_X5_apart : GoodIn wsX5_sendOfSeat (wsV RX5 133 RX5 yX5_apart wsX5_apart) := goodIn_app (goodIn_of _ (by decide +kernel)) ggX5_sendOfSeat_X5_apart
set_option maxRecDepth 20000 in
theorem ggX5_sendOfSeat_X0_pack : GoodIn wsX5_sendOfSeat wsX0_pack := goodIn_r _ [11] (by decide +kernel) (by decide +kernel)
set_option maxRecDepth 20000 in
theorem gX5_sendOfSeat_X0_pack : GoodIn wsX5_sendOfSeat (va_wsS RX5 144 yX0_pack wsX0_pack) := goodIn_app (goodIn_of _ (by decide +kernel)) ggX5_sendOfSeat_X0_pack
set_option maxRecDepth 20000 in
theorem ggX5_sendOfSeat_X0_put : GoodIn wsX5_sendOfSeat wsX0_put := goodIn_r _ [15, 16, 17, 18, 19, 25, 26, 27, 28] (by decide +kernel) (by decide +kernel)
set_option maxRecDepth 20000 in
theorem gX5_sendOfSeat_X0_put : GoodIn wsX5_sendOfSeat (wsV RX5 148 RX0 yX0_put wsX0_put) := goodIn_app (goodIn_of _ (by decide +kernel)) ggX5_sendOfSeat_X0_put
theorem dX5_sendOfSeat_0 : decode cX5_sendOfSeat 0 = .ok (.aload_n 0, 1) := by decide +kernel
theorem dX5_sendOfSeat_1 : decode cX5_sendOfSeat 1 = .ok (.iload_n 2, 1) := by decide +kernel
theorem dX5_sendOfSeat_2 : decode cX5_sendOfSeat 2 = .ok (.iload_n 3, 1) := by decide +kernel
theorem dX5_sendOfSeat_3 : decode cX5_sendOfSeat 3 = .ok (.invokevirtual 133, 3) := by decide +kernel
theorem dX5_sendOfSeat_6 : decode cX5_sendOfSeat 6 = .ok (.ifCond .ne 20, 3) := by decide +kernel
theorem dX5_sendOfSeat_9 : decode cX5_sendOfSeat 9 = .ok (.aload_n 0, 1) := by decide +kernel
theorem dX5_sendOfSeat_10 : decode cX5_sendOfSeat 10 = .ok (.getfield 35, 3) := by decide +kernel
theorem dX5_sendOfSeat_13 : decode cX5_sendOfSeat 13 = .ok (.iload_n 1, 1) := by decide +kernel
theorem dX5_sendOfSeat_14 : decode cX5_sendOfSeat 14 = .ok (.iload_n 2, 1) := by decide +kernel
theorem dX5_sendOfSeat_15 : decode cX5_sendOfSeat 15 = .ok (.iload_n 3, 1) := by decide +kernel
theorem dX5_sendOfSeat_16 : decode cX5_sendOfSeat 16 = .ok (.iload 4, 2) := by decide +kernel
theorem dX5_sendOfSeat_18 : decode cX5_sendOfSeat 18 = .ok (.iload 5, 2) := by decide +kernel
theorem dX5_sendOfSeat_20 : decode cX5_sendOfSeat 20 = .ok (.invokestatic 144, 3) := by decide +kernel
theorem dX5_sendOfSeat_23 : decode cX5_sendOfSeat 23 = .ok (.invokevirtual 148, 3) := by decide +kernel
theorem dX5_sendOfSeat_26 : decode cX5_sendOfSeat 26 = .ok (.return_, 1) := by decide +kernel
set_option maxRecDepth 20000 in
theorem ggX5_wrongViewsOf_X3_isThere : GoodIn wsX5_wrongViewsOf wsX3_isThere := goodIn_r _ [8, 9, 10, 11, 7, 12, 13, 45, 46, 47] (by decide +kernel) (by decide +kernel)
set_option maxRecDepth 20000 in
theorem gX5_wrongViewsOf_X3_isThere : GoodIn wsX5_wrongViewsOf (wsV RX5 87 RX3 yX3_isThere wsX3_isThere) := goodIn_app (goodIn_of _ (by decide +kernel)) ggX5_wrongViewsOf_X3_isThere
set_option maxRecDepth 20000 in
theorem ggX5_wrongViewsOf_X1_hasAny : GoodIn wsX5_wrongViewsOf wsX1_hasAny := goodIn_r _ [18, 19, 48, 49, 50] (by decide +kernel) (by decide +kernel)
set_option maxRecDepth 20000 in
theorem gX5_wrongViewsOf_X1_hasAny : GoodIn wsX5_wrongViewsOf (wsV RX5 62 RX1 yX1_hasAny wsX1_hasAny) := goodIn_app (goodIn_of _ (by decide +kernel)) ggX5_wrongViewsOf_X1_hasAny
set_option maxRecDepth 20000 in
theorem ggX5_wrongViewsOf_X4_mood : GoodIn wsX5_wrongViewsOf wsX4_mood := goodIn_r _ [24, 25, 51] (by decide +kernel) (by decide +kernel)
set_option maxRecDepth 20000 in
theorem gX5_wrongViewsOf_X4_mood : GoodIn wsX5_wrongViewsOf (wsV RX5 151 RX4 yX4_mood wsX4_mood) := goodIn_app (goodIn_of _ (by decide +kernel)) ggX5_wrongViewsOf_X4_mood
set_option maxRecDepth 20000 in
theorem ggX5_wrongViewsOf_X5_isWrong : GoodIn wsX5_wrongViewsOf wsX5_isWrong := goodIn_r _ [30, 1, 31, 32, 33, 7, 34, 13, 35, 36, 37, 38, 39, 40, 41, 42, 43, 44, 45, 46, 47] (by decide +kernel) (by decide +kernel)
set_option maxRecDepth 20000 in
theorem gX5_wrongViewsOf_X5_isWrong : GoodIn wsX5_wrongViewsOf (wsV RX5 155 RX5 yX5_isWrong wsX5_isWrong) := goodIn_app (goodIn_of _ (by decide +kernel)) ggX5_wrongViewsOf_X5_isWrong
theorem dX5_wrongViewsOf_0 : decode cX5_wrongViewsOf 0 = .ok (.aload_n 0, 1) := by decide +kernel
theorem dX5_wrongViewsOf_1 : decode cX5_wrongViewsOf 1 = .ok (.getfield 12, 3) := by decide +kernel
theorem dX5_wrongViewsOf_4 : decode cX5_wrongViewsOf 4 = .ok (.iload_n 1, 1) := by decide +kernel
theorem dX5_wrongViewsOf_5 : decode cX5_wrongViewsOf 5 = .ok (.invokevirtual 87, 3) := by decide +kernel
theorem dX5_wrongViewsOf_8 : decode cX5_wrongViewsOf 8 = .ok (.istore_n 2, 1) := by decide +kernel
theorem dX5_wrongViewsOf_9 : decode cX5_wrongViewsOf 9 = .ok (.iconst 0, 1) := by decide +kernel
theorem dX5_wrongViewsOf_10 : decode cX5_wrongViewsOf 10 = .ok (.istore_n 3, 1) := by decide +kernel
theorem dX5_wrongViewsOf_11 : decode cX5_wrongViewsOf 11 = .ok (.iconst 0, 1) := by decide +kernel
theorem dX5_wrongViewsOf_12 : decode cX5_wrongViewsOf 12 = .ok (.istore 4, 2) := by decide +kernel
theorem dX5_wrongViewsOf_14 : decode cX5_wrongViewsOf 14 = .ok (.iload 4, 2) := by decide +kernel
theorem dX5_wrongViewsOf_16 : decode cX5_wrongViewsOf 16 = .ok (.bipush 6, 2) := by decide +kernel
theorem dX5_wrongViewsOf_18 : decode cX5_wrongViewsOf 18 = .ok (.if_icmp .ge 75, 3) := by decide +kernel
theorem dX5_wrongViewsOf_21 : decode cX5_wrongViewsOf 21 = .ok (.iload 4, 2) := by decide +kernel
theorem dX5_wrongViewsOf_23 : decode cX5_wrongViewsOf 23 = .ok (.iload_n 1, 1) := by decide +kernel
theorem dX5_wrongViewsOf_24 : decode cX5_wrongViewsOf 24 = .ok (.if_icmp .ne 6, 3) := by decide +kernel
theorem dX5_wrongViewsOf_27 : decode cX5_wrongViewsOf 27 = .ok (.goto 60, 3) := by decide +kernel
theorem dX5_wrongViewsOf_30 : decode cX5_wrongViewsOf 30 = .ok (.aload_n 0, 1) := by decide +kernel
theorem dX5_wrongViewsOf_31 : decode cX5_wrongViewsOf 31 = .ok (.getfield 21, 3) := by decide +kernel
theorem dX5_wrongViewsOf_34 : decode cX5_wrongViewsOf 34 = .ok (.iload_n 1, 1) := by decide +kernel
theorem dX5_wrongViewsOf_35 : decode cX5_wrongViewsOf 35 = .ok (.iload 4, 2) := by decide +kernel
theorem dX5_wrongViewsOf_37 : decode cX5_wrongViewsOf 37 = .ok (.iconst 1, 1) := by decide +kernel
theorem dX5_wrongViewsOf_38 : decode cX5_wrongViewsOf 38 = .ok (.invokevirtual 62, 3) := by decide +kernel
theorem dX5_wrongViewsOf_41 : decode cX5_wrongViewsOf 41 = .ok (.istore 5, 2) := by decide +kernel
theorem dX5_wrongViewsOf_43 : decode cX5_wrongViewsOf 43 = .ok (.iconst 0, 1) := by decide +kernel
theorem dX5_wrongViewsOf_44 : decode cX5_wrongViewsOf 44 = .ok (.istore 6, 2) := by decide +kernel
theorem dX5_wrongViewsOf_46 : decode cX5_wrongViewsOf 46 = .ok (.iload 6, 2) := by decide +kernel
theorem dX5_wrongViewsOf_48 : decode cX5_wrongViewsOf 48 = .ok (.iconst 3, 1) := by decide +kernel
theorem dX5_wrongViewsOf_49 : decode cX5_wrongViewsOf 49 = .ok (.if_icmp .ge 38, 3) := by decide +kernel
theorem dX5_wrongViewsOf_52 : decode cX5_wrongViewsOf 52 = .ok (.aload_n 0, 1) := by decide +kernel
theorem dX5_wrongViewsOf_53 : decode cX5_wrongViewsOf 53 = .ok (.aload_n 0, 1) := by decide +kernel
theorem dX5_wrongViewsOf_54 : decode cX5_wrongViewsOf 54 = .ok (.getfield 28, 3) := by decide +kernel
theorem dX5_wrongViewsOf_57 : decode cX5_wrongViewsOf 57 = .ok (.iload_n 1, 1) := by decide +kernel
theorem dX5_wrongViewsOf_58 : decode cX5_wrongViewsOf 58 = .ok (.iload 4, 2) := by decide +kernel
theorem dX5_wrongViewsOf_60 : decode cX5_wrongViewsOf 60 = .ok (.iload 6, 2) := by decide +kernel
theorem dX5_wrongViewsOf_62 : decode cX5_wrongViewsOf 62 = .ok (.invokevirtual 151, 3) := by decide +kernel
theorem dX5_wrongViewsOf_65 : decode cX5_wrongViewsOf 65 = .ok (.iload 4, 2) := by decide +kernel
theorem dX5_wrongViewsOf_67 : decode cX5_wrongViewsOf 67 = .ok (.iload 6, 2) := by decide +kernel
theorem dX5_wrongViewsOf_69 : decode cX5_wrongViewsOf 69 = .ok (.iload 5, 2) := by decide +kernel
theorem dX5_wrongViewsOf_71 : decode cX5_wrongViewsOf 71 = .ok (.iload_n 2, 1) := by decide +kernel
theorem dX5_wrongViewsOf_72 : decode cX5_wrongViewsOf 72 = .ok (.invokevirtual 155, 3) := by decide +kernel
theorem dX5_wrongViewsOf_75 : decode cX5_wrongViewsOf 75 = .ok (.ifCond .eq 6, 3) := by decide +kernel
theorem dX5_wrongViewsOf_78 : decode cX5_wrongViewsOf 78 = .ok (.iinc 3 1, 3) := by decide +kernel
theorem dX5_wrongViewsOf_81 : decode cX5_wrongViewsOf 81 = .ok (.iinc 6 1, 3) := by decide +kernel
theorem dX5_wrongViewsOf_84 : decode cX5_wrongViewsOf 84 = .ok (.goto (-38), 3) := by decide +kernel
theorem dX5_wrongViewsOf_87 : decode cX5_wrongViewsOf 87 = .ok (.iinc 4 1, 3) := by decide +kernel
theorem dX5_wrongViewsOf_90 : decode cX5_wrongViewsOf 90 = .ok (.goto (-76), 3) := by decide +kernel
theorem dX5_wrongViewsOf_93 : decode cX5_wrongViewsOf 93 = .ok (.iload_n 3, 1) := by decide +kernel
theorem dX5_wrongViewsOf_94 : decode cX5_wrongViewsOf 94 = .ok (.ireturn, 1) := by decide +kernel
set_option maxRecDepth 20000 in
theorem ggX5_isWrong_X3_isOn : GoodIn wsX5_isWrong wsX3_isOn := goodIn_r _ [6, 7, 18, 19, 20] (by decide +kernel) (by decide +kernel)
set_option maxRecDepth 20000 in
theorem gX5_isWrong_X3_isOn : GoodIn wsX5_isWrong (wsV RX5 105 RX3 yX3_isOn wsX3_isOn) := goodIn_app (goodIn_of _ (by decide +kernel)) ggX5_isWrong_X3_isOn
set_option maxRecDepth 20000 in
theorem ggX5_isWrong_X3_moodOf : GoodIn wsX5_isWrong wsX3_moodOf := goodIn_r _ [11, 12, 18, 19, 20] (by decide +kernel) (by decide +kernel)
set_option maxRecDepth 20000 in
theorem gX5_isWrong_X3_moodOf : GoodIn wsX5_isWrong (wsV RX5 137 RX3 yX3_moodOf wsX3_moodOf) := goodIn_app (goodIn_of _ (by decide +kernel)) ggX5_isWrong_X3_moodOf
theorem dX5_isWrong_0 : decode cX5_isWrong 0 = .ok (.aload_n 0, 1) := by decide +kernel
theorem dX5_isWrong_1 : decode cX5_isWrong 1 = .ok (.getfield 12, 3) := by decide +kernel
theorem dX5_isWrong_4 : decode cX5_isWrong 4 = .ok (.iload_n 2, 1) := by decide +kernel
theorem dX5_isWrong_5 : decode cX5_isWrong 5 = .ok (.iload_n 3, 1) := by decide +kernel
theorem dX5_isWrong_6 : decode cX5_isWrong 6 = .ok (.invokevirtual 105, 3) := by decide +kernel
theorem dX5_isWrong_9 : decode cX5_isWrong 9 = .ok (.istore 6, 2) := by decide +kernel
theorem dX5_isWrong_11 : decode cX5_isWrong 11 = .ok (.iload_n 1, 1) := by decide +kernel
theorem dX5_isWrong_12 : decode cX5_isWrong 12 = .ok (.iconst (-1), 1) := by decide +kernel
theorem dX5_isWrong_13 : decode cX5_isWrong 13 = .ok (.if_icmp .ne 24, 3) := by decide +kernel
theorem dX5_isWrong_16 : decode cX5_isWrong 16 = .ok (.iload 4, 2) := by decide +kernel
theorem dX5_isWrong_18 : decode cX5_isWrong 18 = .ok (.ifCond .eq 17, 3) := by decide +kernel
theorem dX5_isWrong_21 : decode cX5_isWrong 21 = .ok (.iload 5, 2) := by decide +kernel
theorem dX5_isWrong_23 : decode cX5_isWrong 23 = .ok (.ifCond .eq 12, 3) := by decide +kernel
theorem dX5_isWrong_26 : decode cX5_isWrong 26 = .ok (.iload 6, 2) := by decide +kernel
theorem dX5_isWrong_28 : decode cX5_isWrong 28 = .ok (.ifCond .eq 7, 3) := by decide +kernel
theorem dX5_isWrong_31 : decode cX5_isWrong 31 = .ok (.iconst 1, 1) := by decide +kernel
theorem dX5_isWrong_32 : decode cX5_isWrong 32 = .ok (.goto 4, 3) := by decide +kernel
theorem dX5_isWrong_35 : decode cX5_isWrong 35 = .ok (.iconst 0, 1) := by decide +kernel
theorem dX5_isWrong_36 : decode cX5_isWrong 36 = .ok (.ireturn, 1) := by decide +kernel
theorem dX5_isWrong_37 : decode cX5_isWrong 37 = .ok (.iload 6, 2) := by decide +kernel
theorem dX5_isWrong_39 : decode cX5_isWrong 39 = .ok (.ifCond .eq 21, 3) := by decide +kernel
theorem dX5_isWrong_42 : decode cX5_isWrong 42 = .ok (.iload 4, 2) := by decide +kernel
theorem dX5_isWrong_44 : decode cX5_isWrong 44 = .ok (.ifCond .eq 16, 3) := by decide +kernel
theorem dX5_isWrong_47 : decode cX5_isWrong 47 = .ok (.iload_n 1, 1) := by decide +kernel
theorem dX5_isWrong_48 : decode cX5_isWrong 48 = .ok (.aload_n 0, 1) := by decide +kernel
theorem dX5_isWrong_49 : decode cX5_isWrong 49 = .ok (.getfield 12, 3) := by decide +kernel
theorem dX5_isWrong_52 : decode cX5_isWrong 52 = .ok (.iload_n 2, 1) := by decide +kernel
theorem dX5_isWrong_53 : decode cX5_isWrong 53 = .ok (.iload_n 3, 1) := by decide +kernel
theorem dX5_isWrong_54 : decode cX5_isWrong 54 = .ok (.invokevirtual 137, 3) := by decide +kernel
theorem dX5_isWrong_57 : decode cX5_isWrong 57 = .ok (.if_icmp .eq 7, 3) := by decide +kernel
theorem dX5_isWrong_60 : decode cX5_isWrong 60 = .ok (.iconst 1, 1) := by decide +kernel
theorem dX5_isWrong_61 : decode cX5_isWrong 61 = .ok (.goto 4, 3) := by decide +kernel
theorem dX5_isWrong_64 : decode cX5_isWrong 64 = .ok (.iconst 0, 1) := by decide +kernel
theorem dX5_isWrong_65 : decode cX5_isWrong 65 = .ok (.ireturn, 1) := by decide +kernel
set_option maxRecDepth 20000 in
theorem ggX5_hashUser_X1_rosterVersion : GoodIn wsX5_hashUser wsX1_rosterVersion := goodIn_r _ [8, 9, 46, 47, 48] (by decide +kernel) (by decide +kernel)
set_option maxRecDepth 20000 in
theorem gX5_hashUser_X1_rosterVersion : GoodIn wsX5_hashUser (wsV RX5 161 RX1 yX1_rosterVersion wsX1_rosterVersion) := goodIn_app (goodIn_of _ (by decide +kernel)) ggX5_hashUser_X1_rosterVersion
set_option maxRecDepth 20000 in
theorem ggX5_hashUser_X3_value : GoodIn wsX5_hashUser wsX3_value := goodIn_r _ [14, 15, 16, 17, 49, 50, 51] (by decide +kernel) (by decide +kernel)
set_option maxRecDepth 20000 in
theorem gX5_hashUser_X3_value : GoodIn wsX5_hashUser (wsV RX5 164 RX3 yX3_value wsX3_value) := goodIn_app (goodIn_of _ (by decide +kernel)) ggX5_hashUser_X3_value
set_option maxRecDepth 20000 in
theorem ggX5_hashUser_X5_hashPair : GoodIn wsX5_hashUser wsX5_hashPair := goodIn_r _ [22, 1, 2, 23, 24, 25, 26, 27, 7, 28, 29, 30, 31, 32, 33, 34, 35, 36, 37, 38, 39, 40, 41, 42, 43, 44, 45, 46, 47, 48, 52] (by decide +kernel) (by decide +kernel)
set_option maxRecDepth 20000 in
theorem gX5_hashUser_X5_hashPair : GoodIn wsX5_hashUser (wsV RX5 167 RX5 yX5_hashPair wsX5_hashPair) := goodIn_app (goodIn_of _ (by decide +kernel)) ggX5_hashUser_X5_hashPair
theorem dX5_hashUser_0 : decode cX5_hashUser 0 = .ok (.ldc2_w 159, 3) := by decide +kernel
theorem dX5_hashUser_3 : decode cX5_hashUser 3 = .ok (.lload_n 1, 1) := by decide +kernel
theorem dX5_hashUser_4 : decode cX5_hashUser 4 = .ok (.lmul, 1) := by decide +kernel
theorem dX5_hashUser_5 : decode cX5_hashUser 5 = .ok (.aload_n 0, 1) := by decide +kernel
theorem dX5_hashUser_6 : decode cX5_hashUser 6 = .ok (.getfield 21, 3) := by decide +kernel
theorem dX5_hashUser_9 : decode cX5_hashUser 9 = .ok (.iload_n 3, 1) := by decide +kernel
theorem dX5_hashUser_10 : decode cX5_hashUser 10 = .ok (.invokevirtual 161, 3) := by decide +kernel
theorem dX5_hashUser_13 : decode cX5_hashUser 13 = .ok (.i2l, 1) := by decide +kernel
theorem dX5_hashUser_14 : decode cX5_hashUser 14 = .ok (.ladd, 1) := by decide +kernel
theorem dX5_hashUser_15 : decode cX5_hashUser 15 = .ok (.lstore 4, 2) := by decide +kernel
theorem dX5_hashUser_17 : decode cX5_hashUser 17 = .ok (.iconst 0, 1) := by decide +kernel
theorem dX5_hashUser_18 : decode cX5_hashUser 18 = .ok (.istore 6, 2) := by decide +kernel
theorem dX5_hashUser_20 : decode cX5_hashUser 20 = .ok (.iload 6, 2) := by decide +kernel
theorem dX5_hashUser_22 : decode cX5_hashUser 22 = .ok (.iconst 3, 1) := by decide +kernel
theorem dX5_hashUser_23 : decode cX5_hashUser 23 = .ok (.if_icmp .ge 46, 3) := by decide +kernel
theorem dX5_hashUser_26 : decode cX5_hashUser 26 = .ok (.iconst 0, 1) := by decide +kernel
theorem dX5_hashUser_27 : decode cX5_hashUser 27 = .ok (.istore 7, 2) := by decide +kernel
theorem dX5_hashUser_29 : decode cX5_hashUser 29 = .ok (.iload 7, 2) := by decide +kernel
theorem dX5_hashUser_31 : decode cX5_hashUser 31 = .ok (.iconst 3, 1) := by decide +kernel
theorem dX5_hashUser_32 : decode cX5_hashUser 32 = .ok (.if_icmp .ge 31, 3) := by decide +kernel
theorem dX5_hashUser_35 : decode cX5_hashUser 35 = .ok (.ldc2_w 159, 3) := by decide +kernel
theorem dX5_hashUser_38 : decode cX5_hashUser 38 = .ok (.lload 4, 2) := by decide +kernel
theorem dX5_hashUser_40 : decode cX5_hashUser 40 = .ok (.lmul, 1) := by decide +kernel
theorem dX5_hashUser_41 : decode cX5_hashUser 41 = .ok (.aload_n 0, 1) := by decide +kernel
theorem dX5_hashUser_42 : decode cX5_hashUser 42 = .ok (.getfield 12, 3) := by decide +kernel
theorem dX5_hashUser_45 : decode cX5_hashUser 45 = .ok (.iload_n 3, 1) := by decide +kernel
theorem dX5_hashUser_46 : decode cX5_hashUser 46 = .ok (.iload 6, 2) := by decide +kernel
theorem dX5_hashUser_48 : decode cX5_hashUser 48 = .ok (.iload 7, 2) := by decide +kernel
theorem dX5_hashUser_50 : decode cX5_hashUser 50 = .ok (.invokevirtual 164, 3) := by decide +kernel
theorem dX5_hashUser_53 : decode cX5_hashUser 53 = .ok (.i2l, 1) := by decide +kernel
theorem dX5_hashUser_54 : decode cX5_hashUser 54 = .ok (.ladd, 1) := by decide +kernel
theorem dX5_hashUser_55 : decode cX5_hashUser 55 = .ok (.lstore 4, 2) := by decide +kernel
theorem dX5_hashUser_57 : decode cX5_hashUser 57 = .ok (.iinc 7 1, 3) := by decide +kernel
theorem dX5_hashUser_60 : decode cX5_hashUser 60 = .ok (.goto (-31), 3) := by decide +kernel
theorem dX5_hashUser_63 : decode cX5_hashUser 63 = .ok (.iinc 6 1, 3) := by decide +kernel
theorem dX5_hashUser_66 : decode cX5_hashUser 66 = .ok (.goto (-46), 3) := by decide +kernel
theorem dX5_hashUser_69 : decode cX5_hashUser 69 = .ok (.iconst 0, 1) := by decide +kernel
theorem dX5_hashUser_70 : decode cX5_hashUser 70 = .ok (.istore 6, 2) := by decide +kernel
theorem dX5_hashUser_72 : decode cX5_hashUser 72 = .ok (.iload 6, 2) := by decide +kernel
theorem dX5_hashUser_74 : decode cX5_hashUser 74 = .ok (.bipush 6, 2) := by decide +kernel
theorem dX5_hashUser_76 : decode cX5_hashUser 76 = .ok (.if_icmp .ge 26, 3) := by decide +kernel
theorem dX5_hashUser_79 : decode cX5_hashUser 79 = .ok (.iload 6, 2) := by decide +kernel
theorem dX5_hashUser_81 : decode cX5_hashUser 81 = .ok (.iload_n 3, 1) := by decide +kernel
theorem dX5_hashUser_82 : decode cX5_hashUser 82 = .ok (.if_icmp .eq 14, 3) := by decide +kernel
theorem dX5_hashUser_85 : decode cX5_hashUser 85 = .ok (.aload_n 0, 1) := by decide +kernel
theorem dX5_hashUser_86 : decode cX5_hashUser 86 = .ok (.lload 4, 2) := by decide +kernel
theorem dX5_hashUser_88 : decode cX5_hashUser 88 = .ok (.iload_n 3, 1) := by decide +kernel
theorem dX5_hashUser_89 : decode cX5_hashUser 89 = .ok (.iload 6, 2) := by decide +kernel
theorem dX5_hashUser_91 : decode cX5_hashUser 91 = .ok (.invokevirtual 167, 3) := by decide +kernel
theorem dX5_hashUser_94 : decode cX5_hashUser 94 = .ok (.lstore 4, 2) := by decide +kernel
theorem dX5_hashUser_96 : decode cX5_hashUser 96 = .ok (.iinc 6 1, 3) := by decide +kernel
theorem dX5_hashUser_99 : decode cX5_hashUser 99 = .ok (.goto (-27), 3) := by decide +kernel
theorem dX5_hashUser_102 : decode cX5_hashUser 102 = .ok (.lload 4, 2) := by decide +kernel
theorem dX5_hashUser_104 : decode cX5_hashUser 104 = .ok (.lreturn, 1) := by decide +kernel
set_option maxRecDepth 20000 in
theorem ggX5_hashPair_X1_state : GoodIn wsX5_hashPair wsX1_state := goodIn_r _ [9, 10, 27, 28, 29] (by decide +kernel) (by decide +kernel)
set_option maxRecDepth 20000 in
theorem gX5_hashPair_X1_state : GoodIn wsX5_hashPair (wsV RX5 171 RX1 yX1_state wsX1_state) := goodIn_app (goodIn_of _ (by decide +kernel)) ggX5_hashPair_X1_state
set_option maxRecDepth 20000 in
theorem ggX5_hashPair_X1_entryVersion : GoodIn wsX5_hashPair wsX1_entryVersion := goodIn_r _ [14, 15, 27, 28, 29] (by decide +kernel) (by decide +kernel)
set_option maxRecDepth 20000 in
theorem gX5_hashPair_X1_entryVersion : GoodIn wsX5_hashPair (wsV RX5 174 RX1 yX1_entryVersion wsX1_entryVersion) := goodIn_app (goodIn_of _ (by decide +kernel)) ggX5_hashPair_X1_entryVersion
set_option maxRecDepth 20000 in
theorem ggX5_hashPair_X4_mood : GoodIn wsX5_hashPair wsX4_mood := goodIn_r _ [20, 21, 30] (by decide +kernel) (by decide +kernel)
set_option maxRecDepth 20000 in
theorem gX5_hashPair_X4_mood : GoodIn wsX5_hashPair (wsV RX5 151 RX4 yX4_mood wsX4_mood) := goodIn_app (goodIn_of _ (by decide +kernel)) ggX5_hashPair_X4_mood
theorem dX5_hashPair_0 : decode cX5_hashPair 0 = .ok (.ldc2_w 159, 3) := by decide +kernel
theorem dX5_hashPair_3 : decode cX5_hashPair 3 = .ok (.lload_n 1, 1) := by decide +kernel
theorem dX5_hashPair_4 : decode cX5_hashPair 4 = .ok (.lmul, 1) := by decide +kernel
theorem dX5_hashPair_5 : decode cX5_hashPair 5 = .ok (.aload_n 0, 1) := by decide +kernel
theorem dX5_hashPair_6 : decode cX5_hashPair 6 = .ok (.getfield 21, 3) := by decide +kernel
theorem dX5_hashPair_9 : decode cX5_hashPair 9 = .ok (.iload_n 3, 1) := by decide +kernel
theorem dX5_hashPair_10 : decode cX5_hashPair 10 = .ok (.iload 4, 2) := by decide +kernel
theorem dX5_hashPair_12 : decode cX5_hashPair 12 = .ok (.invokevirtual 171, 3) := by decide +kernel
theorem dX5_hashPair_15 : decode cX5_hashPair 15 = .ok (.i2l, 1) := by decide +kernel
theorem dX5_hashPair_16 : decode cX5_hashPair 16 = .ok (.ladd, 1) := by decide +kernel
theorem dX5_hashPair_17 : decode cX5_hashPair 17 = .ok (.lstore 5, 2) := by decide +kernel
theorem dX5_hashPair_19 : decode cX5_hashPair 19 = .ok (.ldc2_w 159, 3) := by decide +kernel
theorem dX5_hashPair_22 : decode cX5_hashPair 22 = .ok (.lload 5, 2) := by decide +kernel
theorem dX5_hashPair_24 : decode cX5_hashPair 24 = .ok (.lmul, 1) := by decide +kernel
theorem dX5_hashPair_25 : decode cX5_hashPair 25 = .ok (.aload_n 0, 1) := by decide +kernel
theorem dX5_hashPair_26 : decode cX5_hashPair 26 = .ok (.getfield 21, 3) := by decide +kernel
theorem dX5_hashPair_29 : decode cX5_hashPair 29 = .ok (.iload_n 3, 1) := by decide +kernel
theorem dX5_hashPair_30 : decode cX5_hashPair 30 = .ok (.iload 4, 2) := by decide +kernel
theorem dX5_hashPair_32 : decode cX5_hashPair 32 = .ok (.invokevirtual 174, 3) := by decide +kernel
theorem dX5_hashPair_35 : decode cX5_hashPair 35 = .ok (.i2l, 1) := by decide +kernel
theorem dX5_hashPair_36 : decode cX5_hashPair 36 = .ok (.ladd, 1) := by decide +kernel
theorem dX5_hashPair_37 : decode cX5_hashPair 37 = .ok (.lstore 5, 2) := by decide +kernel
theorem dX5_hashPair_39 : decode cX5_hashPair 39 = .ok (.ldc2_w 159, 3) := by decide +kernel
theorem dX5_hashPair_42 : decode cX5_hashPair 42 = .ok (.lload 5, 2) := by decide +kernel
theorem dX5_hashPair_44 : decode cX5_hashPair 44 = .ok (.lmul, 1) := by decide +kernel
theorem dX5_hashPair_45 : decode cX5_hashPair 45 = .ok (.aload_n 0, 1) := by decide +kernel
theorem dX5_hashPair_46 : decode cX5_hashPair 46 = .ok (.getfield 39, 3) := by decide +kernel
theorem dX5_hashPair_49 : decode cX5_hashPair 49 = .ok (.iload_n 3, 1) := by decide +kernel
theorem dX5_hashPair_50 : decode cX5_hashPair 50 = .ok (.bipush 6, 2) := by decide +kernel
theorem dX5_hashPair_52 : decode cX5_hashPair 52 = .ok (.imul, 1) := by decide +kernel
theorem dX5_hashPair_53 : decode cX5_hashPair 53 = .ok (.iload 4, 2) := by decide +kernel
theorem dX5_hashPair_55 : decode cX5_hashPair 55 = .ok (.iadd, 1) := by decide +kernel
theorem dX5_hashPair_56 : decode cX5_hashPair 56 = .ok (.iaload, 1) := by decide +kernel
theorem dX5_hashPair_57 : decode cX5_hashPair 57 = .ok (.i2l, 1) := by decide +kernel
theorem dX5_hashPair_58 : decode cX5_hashPair 58 = .ok (.ladd, 1) := by decide +kernel
theorem dX5_hashPair_59 : decode cX5_hashPair 59 = .ok (.lstore 5, 2) := by decide +kernel
theorem dX5_hashPair_61 : decode cX5_hashPair 61 = .ok (.iconst 0, 1) := by decide +kernel
theorem dX5_hashPair_62 : decode cX5_hashPair 62 = .ok (.istore 7, 2) := by decide +kernel
theorem dX5_hashPair_64 : decode cX5_hashPair 64 = .ok (.iload 7, 2) := by decide +kernel
theorem dX5_hashPair_66 : decode cX5_hashPair 66 = .ok (.iconst 3, 1) := by decide +kernel
theorem dX5_hashPair_67 : decode cX5_hashPair 67 = .ok (.if_icmp .ge 31, 3) := by decide +kernel
theorem dX5_hashPair_70 : decode cX5_hashPair 70 = .ok (.ldc2_w 159, 3) := by decide +kernel
theorem dX5_hashPair_73 : decode cX5_hashPair 73 = .ok (.lload 5, 2) := by decide +kernel
theorem dX5_hashPair_75 : decode cX5_hashPair 75 = .ok (.lmul, 1) := by decide +kernel
theorem dX5_hashPair_76 : decode cX5_hashPair 76 = .ok (.aload_n 0, 1) := by decide +kernel
theorem dX5_hashPair_77 : decode cX5_hashPair 77 = .ok (.getfield 28, 3) := by decide +kernel
theorem dX5_hashPair_80 : decode cX5_hashPair 80 = .ok (.iload_n 3, 1) := by decide +kernel
theorem dX5_hashPair_81 : decode cX5_hashPair 81 = .ok (.iload 4, 2) := by decide +kernel
theorem dX5_hashPair_83 : decode cX5_hashPair 83 = .ok (.iload 7, 2) := by decide +kernel
theorem dX5_hashPair_85 : decode cX5_hashPair 85 = .ok (.invokevirtual 151, 3) := by decide +kernel
theorem dX5_hashPair_88 : decode cX5_hashPair 88 = .ok (.i2l, 1) := by decide +kernel
theorem dX5_hashPair_89 : decode cX5_hashPair 89 = .ok (.ladd, 1) := by decide +kernel
theorem dX5_hashPair_90 : decode cX5_hashPair 90 = .ok (.lstore 5, 2) := by decide +kernel
theorem dX5_hashPair_92 : decode cX5_hashPair 92 = .ok (.iinc 7 1, 3) := by decide +kernel
theorem dX5_hashPair_95 : decode cX5_hashPair 95 = .ok (.goto (-31), 3) := by decide +kernel
theorem dX5_hashPair_98 : decode cX5_hashPair 98 = .ok (.lload 5, 2) := by decide +kernel
theorem dX5_hashPair_100 : decode cX5_hashPair 100 = .ok (.lreturn, 1) := by decide +kernel

theorem dX0_init_0 : decode cX0_init 0 = .ok (.aload_n 0, 1) := by decide +kernel
theorem dX0_init_1 : decode cX0_init 1 = .ok (.invokespecial 3, 3) := by decide +kernel
theorem dX0_init_4 : decode cX0_init 4 = .ok (.aload_n 0, 1) := by decide +kernel
theorem dX0_init_5 : decode cX0_init 5 = .ok (.iconst 0, 1) := by decide +kernel
theorem dX0_init_6 : decode cX0_init 6 = .ok (.putfield 9, 3) := by decide +kernel
theorem dX0_init_9 : decode cX0_init 9 = .ok (.return_, 1) := by decide +kernel
theorem dX0_copyFrom_0 : decode cX0_copyFrom 0 = .ok (.aload_n 0, 1) := by decide +kernel
theorem dX0_copyFrom_1 : decode cX0_copyFrom 1 = .ok (.aload_n 1, 1) := by decide +kernel
theorem dX0_copyFrom_2 : decode cX0_copyFrom 2 = .ok (.getfield 15, 3) := by decide +kernel
theorem dX0_copyFrom_5 : decode cX0_copyFrom 5 = .ok (.putfield 15, 3) := by decide +kernel
theorem dX0_copyFrom_8 : decode cX0_copyFrom 8 = .ok (.aload_n 0, 1) := by decide +kernel
theorem dX0_copyFrom_9 : decode cX0_copyFrom 9 = .ok (.aload_n 1, 1) := by decide +kernel
theorem dX0_copyFrom_10 : decode cX0_copyFrom 10 = .ok (.getfield 18, 3) := by decide +kernel
theorem dX0_copyFrom_13 : decode cX0_copyFrom 13 = .ok (.putfield 18, 3) := by decide +kernel
theorem dX0_copyFrom_16 : decode cX0_copyFrom 16 = .ok (.aload_n 0, 1) := by decide +kernel
theorem dX0_copyFrom_17 : decode cX0_copyFrom 17 = .ok (.aload_n 1, 1) := by decide +kernel
theorem dX0_copyFrom_18 : decode cX0_copyFrom 18 = .ok (.getfield 22, 3) := by decide +kernel
theorem dX0_copyFrom_21 : decode cX0_copyFrom 21 = .ok (.putfield 22, 3) := by decide +kernel
theorem dX0_copyFrom_24 : decode cX0_copyFrom 24 = .ok (.aload_n 0, 1) := by decide +kernel
theorem dX0_copyFrom_25 : decode cX0_copyFrom 25 = .ok (.aload_n 1, 1) := by decide +kernel
theorem dX0_copyFrom_26 : decode cX0_copyFrom 26 = .ok (.getfield 25, 3) := by decide +kernel
theorem dX0_copyFrom_29 : decode cX0_copyFrom 29 = .ok (.putfield 25, 3) := by decide +kernel
theorem dX0_copyFrom_32 : decode cX0_copyFrom 32 = .ok (.aload_n 0, 1) := by decide +kernel
theorem dX0_copyFrom_33 : decode cX0_copyFrom 33 = .ok (.aload_n 1, 1) := by decide +kernel
theorem dX0_copyFrom_34 : decode cX0_copyFrom 34 = .ok (.getfield 28, 3) := by decide +kernel
theorem dX0_copyFrom_37 : decode cX0_copyFrom 37 = .ok (.putfield 28, 3) := by decide +kernel
theorem dX0_copyFrom_40 : decode cX0_copyFrom 40 = .ok (.aload_n 0, 1) := by decide +kernel
theorem dX0_copyFrom_41 : decode cX0_copyFrom 41 = .ok (.aload_n 1, 1) := by decide +kernel
theorem dX0_copyFrom_42 : decode cX0_copyFrom 42 = .ok (.getfield 9, 3) := by decide +kernel
theorem dX0_copyFrom_45 : decode cX0_copyFrom 45 = .ok (.putfield 9, 3) := by decide +kernel
theorem dX0_copyFrom_48 : decode cX0_copyFrom 48 = .ok (.return_, 1) := by decide +kernel
set_option maxRecDepth 20000 in
theorem ggX0_begin_X0_setValve : GoodIn wsX0_begin wsX0_setValve := goodIn_r _ [10, 3, 5, 4, 11, 12, 13, 14, 15, 16, 17] (by decide +kernel) (by decide +kernel)
set_option maxRecDepth 20000 in
theorem gX0_begin_X0_setValve : GoodIn wsX0_begin (wsV RX0 32 RX0 yX0_setValve wsX0_setValve) := goodIn_app (goodIn_of _ (by decide +kernel)) ggX0_begin_X0_setValve
theorem dX0_begin_0 : decode cX0_begin 0 = .ok (.aload_n 0, 1) := by decide +kernel
theorem dX0_begin_1 : decode cX0_begin 1 = .ok (.dup, 1) := by decide +kernel
theorem dX0_begin_2 : decode cX0_begin 2 = .ok (.getfield 15, 3) := by decide +kernel
theorem dX0_begin_5 : decode cX0_begin 5 = .ok (.iconst 1, 1) := by decide +kernel
theorem dX0_begin_6 : decode cX0_begin 6 = .ok (.iadd, 1) := by decide +kernel
theorem dX0_begin_7 : decode cX0_begin 7 = .ok (.putfield 15, 3) := by decide +kernel
theorem dX0_begin_10 : decode cX0_begin 10 = .ok (.aload_n 0, 1) := by decide +kernel
theorem dX0_begin_11 : decode cX0_begin 11 = .ok (.iconst 1, 1) := by decide +kernel
theorem dX0_begin_12 : decode cX0_begin 12 = .ok (.putfield 18, 3) := by decide +kernel
theorem dX0_begin_15 : decode cX0_begin 15 = .ok (.aload_n 0, 1) := by decide +kernel
theorem dX0_begin_16 : decode cX0_begin 16 = .ok (.iload_n 1, 1) := by decide +kernel
theorem dX0_begin_17 : decode cX0_begin 17 = .ok (.putfield 22, 3) := by decide +kernel
theorem dX0_begin_20 : decode cX0_begin 20 = .ok (.aload_n 0, 1) := by decide +kernel
theorem dX0_begin_21 : decode cX0_begin 21 = .ok (.iload_n 2, 1) := by decide +kernel
theorem dX0_begin_22 : decode cX0_begin 22 = .ok (.putfield 25, 3) := by decide +kernel
theorem dX0_begin_25 : decode cX0_begin 25 = .ok (.aload_n 0, 1) := by decide +kernel
theorem dX0_begin_26 : decode cX0_begin 26 = .ok (.lconst 0, 1) := by decide +kernel
theorem dX0_begin_27 : decode cX0_begin 27 = .ok (.putfield 28, 3) := by decide +kernel
theorem dX0_begin_30 : decode cX0_begin 30 = .ok (.aload_n 0, 1) := by decide +kernel
theorem dX0_begin_31 : decode cX0_begin 31 = .ok (.invokevirtual 32, 3) := by decide +kernel
theorem dX0_begin_34 : decode cX0_begin 34 = .ok (.return_, 1) := by decide +kernel
set_option maxRecDepth 20000 in
theorem ggX0_fill_X0_end : GoodIn wsX0_fill wsX0_end := goodIn_r _ [7, 8, 9, 15, 16, 17, 18, 19, 20] (by decide +kernel) (by decide +kernel)
set_option maxRecDepth 20000 in
theorem gX0_fill_X0_end : GoodIn wsX0_fill (wsV RX0 35 RX0 yX0_end wsX0_end) := goodIn_app (goodIn_of _ (by decide +kernel)) ggX0_fill_X0_end
set_option maxRecDepth 20000 in
theorem ggX0_fill_X0_setValve : GoodIn wsX0_fill wsX0_setValve := goodIn_r _ [13, 2, 1, 14, 9, 15, 16, 17, 18, 19, 20] (by decide +kernel) (by decide +kernel)
set_option maxRecDepth 20000 in
theorem gX0_fill_X0_setValve : GoodIn wsX0_fill (wsV RX0 32 RX0 yX0_setValve wsX0_setValve) := goodIn_app (goodIn_of _ (by decide +kernel)) ggX0_fill_X0_setValve
theorem dX0_fill_0 : decode cX0_fill 0 = .ok (.aload_n 0, 1) := by decide +kernel
theorem dX0_fill_1 : decode cX0_fill 1 = .ok (.dup, 1) := by decide +kernel
theorem dX0_fill_2 : decode cX0_fill 2 = .ok (.getfield 28, 3) := by decide +kernel
theorem dX0_fill_5 : decode cX0_fill 5 = .ok (.lload_n 1, 1) := by decide +kernel
theorem dX0_fill_6 : decode cX0_fill 6 = .ok (.ladd, 1) := by decide +kernel
theorem dX0_fill_7 : decode cX0_fill 7 = .ok (.putfield 28, 3) := by decide +kernel
theorem dX0_fill_10 : decode cX0_fill 10 = .ok (.aload_n 0, 1) := by decide +kernel
theorem dX0_fill_11 : decode cX0_fill 11 = .ok (.getfield 28, 3) := by decide +kernel
theorem dX0_fill_14 : decode cX0_fill 14 = .ok (.aload_n 0, 1) := by decide +kernel
theorem dX0_fill_15 : decode cX0_fill 15 = .ok (.getfield 22, 3) := by decide +kernel
theorem dX0_fill_18 : decode cX0_fill 18 = .ok (.i2l, 1) := by decide +kernel
theorem dX0_fill_19 : decode cX0_fill 19 = .ok (.lcmp, 1) := by decide +kernel
theorem dX0_fill_20 : decode cX0_fill 20 = .ok (.ifCond .lt 10, 3) := by decide +kernel
theorem dX0_fill_23 : decode cX0_fill 23 = .ok (.aload_n 0, 1) := by decide +kernel
theorem dX0_fill_24 : decode cX0_fill 24 = .ok (.invokevirtual 35, 3) := by decide +kernel
theorem dX0_fill_27 : decode cX0_fill 27 = .ok (.goto 7, 3) := by decide +kernel
theorem dX0_fill_30 : decode cX0_fill 30 = .ok (.aload_n 0, 1) := by decide +kernel
theorem dX0_fill_31 : decode cX0_fill 31 = .ok (.invokevirtual 32, 3) := by decide +kernel
theorem dX0_fill_34 : decode cX0_fill 34 = .ok (.return_, 1) := by decide +kernel
theorem dX0_end_0 : decode cX0_end 0 = .ok (.aload_n 0, 1) := by decide +kernel
theorem dX0_end_1 : decode cX0_end 1 = .ok (.iconst 0, 1) := by decide +kernel
theorem dX0_end_2 : decode cX0_end 2 = .ok (.putfield 18, 3) := by decide +kernel
theorem dX0_end_5 : decode cX0_end 5 = .ok (.aload_n 0, 1) := by decide +kernel
theorem dX0_end_6 : decode cX0_end 6 = .ok (.iconst 0, 1) := by decide +kernel
theorem dX0_end_7 : decode cX0_end 7 = .ok (.putfield 9, 3) := by decide +kernel
theorem dX0_end_10 : decode cX0_end 10 = .ok (.return_, 1) := by decide +kernel
theorem dX0_setValve_0 : decode cX0_setValve 0 = .ok (.aload_n 0, 1) := by decide +kernel
theorem dX0_setValve_1 : decode cX0_setValve 1 = .ok (.aload_n 0, 1) := by decide +kernel
theorem dX0_setValve_2 : decode cX0_setValve 2 = .ok (.getfield 22, 3) := by decide +kernel
theorem dX0_setValve_5 : decode cX0_setValve 5 = .ok (.i2l, 1) := by decide +kernel
theorem dX0_setValve_6 : decode cX0_setValve 6 = .ok (.aload_n 0, 1) := by decide +kernel
theorem dX0_setValve_7 : decode cX0_setValve 7 = .ok (.getfield 28, 3) := by decide +kernel
theorem dX0_setValve_10 : decode cX0_setValve 10 = .ok (.lsub, 1) := by decide +kernel
theorem dX0_setValve_11 : decode cX0_setValve 11 = .ok (.aload_n 0, 1) := by decide +kernel
theorem dX0_setValve_12 : decode cX0_setValve 12 = .ok (.getfield 25, 3) := by decide +kernel
theorem dX0_setValve_15 : decode cX0_setValve 15 = .ok (.i2l, 1) := by decide +kernel
theorem dX0_setValve_16 : decode cX0_setValve 16 = .ok (.lcmp, 1) := by decide +kernel
theorem dX0_setValve_17 : decode cX0_setValve 17 = .ok (.ifCond .gt 7, 3) := by decide +kernel
theorem dX0_setValve_20 : decode cX0_setValve 20 = .ok (.iconst 1, 1) := by decide +kernel
theorem dX0_setValve_21 : decode cX0_setValve 21 = .ok (.goto 4, 3) := by decide +kernel
theorem dX0_setValve_24 : decode cX0_setValve 24 = .ok (.iconst 2, 1) := by decide +kernel
theorem dX0_setValve_25 : decode cX0_setValve 25 = .ok (.putfield 9, 3) := by decide +kernel
theorem dX0_setValve_28 : decode cX0_setValve 28 = .ok (.return_, 1) := by decide +kernel
theorem dX1_init_0 : decode cX1_init 0 = .ok (.aload_n 0, 1) := by decide +kernel
theorem dX1_init_1 : decode cX1_init 1 = .ok (.invokespecial 1, 3) := by decide +kernel
theorem dX1_init_4 : decode cX1_init 4 = .ok (.aload_n 0, 1) := by decide +kernel
theorem dX1_init_5 : decode cX1_init 5 = .ok (.iconst 1, 1) := by decide +kernel
theorem dX1_init_6 : decode cX1_init 6 = .ok (.putfield 7, 3) := by decide +kernel
theorem dX1_init_9 : decode cX1_init 9 = .ok (.return_, 1) := by decide +kernel
theorem dX1_copyFrom_0 : decode cX1_copyFrom 0 = .ok (.aload_n 0, 1) := by decide +kernel
theorem dX1_copyFrom_1 : decode cX1_copyFrom 1 = .ok (.aload_n 1, 1) := by decide +kernel
theorem dX1_copyFrom_2 : decode cX1_copyFrom 2 = .ok (.getfield 13, 3) := by decide +kernel
theorem dX1_copyFrom_5 : decode cX1_copyFrom 5 = .ok (.putfield 13, 3) := by decide +kernel
theorem dX1_copyFrom_8 : decode cX1_copyFrom 8 = .ok (.aload_n 0, 1) := by decide +kernel
theorem dX1_copyFrom_9 : decode cX1_copyFrom 9 = .ok (.aload_n 1, 1) := by decide +kernel
theorem dX1_copyFrom_10 : decode cX1_copyFrom 10 = .ok (.getfield 17, 3) := by decide +kernel
theorem dX1_copyFrom_13 : decode cX1_copyFrom 13 = .ok (.putfield 17, 3) := by decide +kernel
theorem dX1_copyFrom_16 : decode cX1_copyFrom 16 = .ok (.aload_n 0, 1) := by decide +kernel
theorem dX1_copyFrom_17 : decode cX1_copyFrom 17 = .ok (.aload_n 1, 1) := by decide +kernel
theorem dX1_copyFrom_18 : decode cX1_copyFrom 18 = .ok (.getfield 7, 3) := by decide +kernel
theorem dX1_copyFrom_21 : decode cX1_copyFrom 21 = .ok (.putfield 7, 3) := by decide +kernel
theorem dX1_copyFrom_24 : decode cX1_copyFrom 24 = .ok (.return_, 1) := by decide +kernel
theorem dX1_passed_0 : decode cX1_passed 0 = .ok (.aload_n 0, 1) := by decide +kernel
theorem dX1_passed_1 : decode cX1_passed 1 = .ok (.aload_n 0, 1) := by decide +kernel
theorem dX1_passed_2 : decode cX1_passed 2 = .ok (.getfield 7, 3) := by decide +kernel
theorem dX1_passed_5 : decode cX1_passed 5 = .ok (.ifCond .eq 21, 3) := by decide +kernel
theorem dX1_passed_8 : decode cX1_passed 8 = .ok (.lload_n 1, 1) := by decide +kernel
theorem dX1_passed_9 : decode cX1_passed 9 = .ok (.aload_n 0, 1) := by decide +kernel
theorem dX1_passed_10 : decode cX1_passed 10 = .ok (.getfield 13, 3) := by decide +kernel
theorem dX1_passed_13 : decode cX1_passed 13 = .ok (.i2l, 1) := by decide +kernel
theorem dX1_passed_14 : decode cX1_passed 14 = .ok (.lcmp, 1) := by decide +kernel
theorem dX1_passed_15 : decode cX1_passed 15 = .ok (.ifCond .lt 7, 3) := by decide +kernel
theorem dX1_passed_18 : decode cX1_passed 18 = .ok (.iconst 1, 1) := by decide +kernel
theorem dX1_passed_19 : decode cX1_passed 19 = .ok (.goto 22, 3) := by decide +kernel
theorem dX1_passed_22 : decode cX1_passed 22 = .ok (.iconst 0, 1) := by decide +kernel
theorem dX1_passed_23 : decode cX1_passed 23 = .ok (.goto 18, 3) := by decide +kernel
theorem dX1_passed_26 : decode cX1_passed 26 = .ok (.lload_n 1, 1) := by decide +kernel
theorem dX1_passed_27 : decode cX1_passed 27 = .ok (.aload_n 0, 1) := by decide +kernel
theorem dX1_passed_28 : decode cX1_passed 28 = .ok (.getfield 17, 3) := by decide +kernel
theorem dX1_passed_31 : decode cX1_passed 31 = .ok (.i2l, 1) := by decide +kernel
theorem dX1_passed_32 : decode cX1_passed 32 = .ok (.lcmp, 1) := by decide +kernel
theorem dX1_passed_33 : decode cX1_passed 33 = .ok (.ifCond .lt 7, 3) := by decide +kernel
theorem dX1_passed_36 : decode cX1_passed 36 = .ok (.iconst 1, 1) := by decide +kernel
theorem dX1_passed_37 : decode cX1_passed 37 = .ok (.goto 4, 3) := by decide +kernel
theorem dX1_passed_40 : decode cX1_passed 40 = .ok (.iconst 0, 1) := by decide +kernel
theorem dX1_passed_41 : decode cX1_passed 41 = .ok (.putfield 7, 3) := by decide +kernel
theorem dX1_passed_44 : decode cX1_passed 44 = .ok (.aload_n 0, 1) := by decide +kernel
theorem dX1_passed_45 : decode cX1_passed 45 = .ok (.getfield 7, 3) := by decide +kernel
theorem dX1_passed_48 : decode cX1_passed 48 = .ok (.ifCond .eq 7, 3) := by decide +kernel
theorem dX1_passed_51 : decode cX1_passed 51 = .ok (.lload_n 1, 1) := by decide +kernel
theorem dX1_passed_52 : decode cX1_passed 52 = .ok (.goto 4, 3) := by decide +kernel
theorem dX1_passed_55 : decode cX1_passed 55 = .ok (.lconst 0, 1) := by decide +kernel
theorem dX1_passed_56 : decode cX1_passed 56 = .ok (.lreturn, 1) := by decide +kernel
theorem dX2_init_0 : decode cX2_init 0 = .ok (.aload_n 0, 1) := by decide +kernel
theorem dX2_init_1 : decode cX2_init 1 = .ok (.invokespecial 1, 3) := by decide +kernel
theorem dX2_init_4 : decode cX2_init 4 = .ok (.return_, 1) := by decide +kernel
theorem dX2_copyFrom_0 : decode cX2_copyFrom 0 = .ok (.aload_n 0, 1) := by decide +kernel
theorem dX2_copyFrom_1 : decode cX2_copyFrom 1 = .ok (.aload_n 1, 1) := by decide +kernel
theorem dX2_copyFrom_2 : decode cX2_copyFrom 2 = .ok (.getfield 7, 3) := by decide +kernel
theorem dX2_copyFrom_5 : decode cX2_copyFrom 5 = .ok (.putfield 7, 3) := by decide +kernel
theorem dX2_copyFrom_8 : decode cX2_copyFrom 8 = .ok (.aload_n 0, 1) := by decide +kernel
theorem dX2_copyFrom_9 : decode cX2_copyFrom 9 = .ok (.aload_n 1, 1) := by decide +kernel
theorem dX2_copyFrom_10 : decode cX2_copyFrom 10 = .ok (.getfield 13, 3) := by decide +kernel
theorem dX2_copyFrom_13 : decode cX2_copyFrom 13 = .ok (.putfield 13, 3) := by decide +kernel
theorem dX2_copyFrom_16 : decode cX2_copyFrom 16 = .ok (.aload_n 0, 1) := by decide +kernel
theorem dX2_copyFrom_17 : decode cX2_copyFrom 17 = .ok (.aload_n 1, 1) := by decide +kernel
theorem dX2_copyFrom_18 : decode cX2_copyFrom 18 = .ok (.getfield 16, 3) := by decide +kernel
theorem dX2_copyFrom_21 : decode cX2_copyFrom 21 = .ok (.putfield 16, 3) := by decide +kernel
theorem dX2_copyFrom_24 : decode cX2_copyFrom 24 = .ok (.return_, 1) := by decide +kernel
theorem dX2_clear_0 : decode cX2_clear 0 = .ok (.aload_n 0, 1) := by decide +kernel
theorem dX2_clear_1 : decode cX2_clear 1 = .ok (.lconst 0, 1) := by decide +kernel
theorem dX2_clear_2 : decode cX2_clear 2 = .ok (.putfield 7, 3) := by decide +kernel
theorem dX2_clear_5 : decode cX2_clear 5 = .ok (.aload_n 0, 1) := by decide +kernel
theorem dX2_clear_6 : decode cX2_clear 6 = .ok (.lconst 0, 1) := by decide +kernel
theorem dX2_clear_7 : decode cX2_clear 7 = .ok (.putfield 13, 3) := by decide +kernel
theorem dX2_clear_10 : decode cX2_clear 10 = .ok (.aload_n 0, 1) := by decide +kernel
theorem dX2_clear_11 : decode cX2_clear 11 = .ok (.iconst 0, 1) := by decide +kernel
theorem dX2_clear_12 : decode cX2_clear 12 = .ok (.putfield 16, 3) := by decide +kernel
theorem dX2_clear_15 : decode cX2_clear 15 = .ok (.return_, 1) := by decide +kernel
theorem dX2_add_0 : decode cX2_add 0 = .ok (.aload_n 0, 1) := by decide +kernel
theorem dX2_add_1 : decode cX2_add 1 = .ok (.dup, 1) := by decide +kernel
theorem dX2_add_2 : decode cX2_add 2 = .ok (.getfield 7, 3) := by decide +kernel
theorem dX2_add_5 : decode cX2_add 5 = .ok (.aload_n 1, 1) := by decide +kernel
theorem dX2_add_6 : decode cX2_add 6 = .ok (.getfield 20, 3) := by decide +kernel
theorem dX2_add_9 : decode cX2_add 9 = .ok (.ladd, 1) := by decide +kernel
theorem dX2_add_10 : decode cX2_add 10 = .ok (.putfield 7, 3) := by decide +kernel
theorem dX2_add_13 : decode cX2_add 13 = .ok (.aload_n 0, 1) := by decide +kernel
theorem dX2_add_14 : decode cX2_add 14 = .ok (.dup, 1) := by decide +kernel
theorem dX2_add_15 : decode cX2_add 15 = .ok (.getfield 13, 3) := by decide +kernel
theorem dX2_add_18 : decode cX2_add 18 = .ok (.aload_n 1, 1) := by decide +kernel
theorem dX2_add_19 : decode cX2_add 19 = .ok (.getfield 23, 3) := by decide +kernel
theorem dX2_add_22 : decode cX2_add 22 = .ok (.getfield 27, 3) := by decide +kernel
theorem dX2_add_25 : decode cX2_add 25 = .ok (.i2l, 1) := by decide +kernel
theorem dX2_add_26 : decode cX2_add 26 = .ok (.ladd, 1) := by decide +kernel
theorem dX2_add_27 : decode cX2_add 27 = .ok (.putfield 13, 3) := by decide +kernel
theorem dX2_add_30 : decode cX2_add 30 = .ok (.aload_n 0, 1) := by decide +kernel
theorem dX2_add_31 : decode cX2_add 31 = .ok (.dup, 1) := by decide +kernel
theorem dX2_add_32 : decode cX2_add 32 = .ok (.getfield 16, 3) := by decide +kernel
theorem dX2_add_35 : decode cX2_add 35 = .ok (.iconst 1, 1) := by decide +kernel
theorem dX2_add_36 : decode cX2_add 36 = .ok (.iadd, 1) := by decide +kernel
theorem dX2_add_37 : decode cX2_add 37 = .ok (.putfield 16, 3) := by decide +kernel
theorem dX2_add_40 : decode cX2_add 40 = .ok (.return_, 1) := by decide +kernel
theorem dX3_init_0 : decode cX3_init 0 = .ok (.aload_n 0, 1) := by decide +kernel
theorem dX3_init_1 : decode cX3_init 1 = .ok (.invokespecial 3, 3) := by decide +kernel
theorem dX3_init_4 : decode cX3_init 4 = .ok (.aload_n 0, 1) := by decide +kernel
theorem dX3_init_5 : decode cX3_init 5 = .ok (.iconst 0, 1) := by decide +kernel
theorem dX3_init_6 : decode cX3_init 6 = .ok (.putfield 9, 3) := by decide +kernel
theorem dX3_init_9 : decode cX3_init 9 = .ok (.aload_n 0, 1) := by decide +kernel
theorem dX3_init_10 : decode cX3_init 10 = .ok (.sipush 1000, 3) := by decide +kernel
theorem dX3_init_13 : decode cX3_init 13 = .ok (.putfield 15, 3) := by decide +kernel
theorem dX3_init_16 : decode cX3_init 16 = .ok (.aload_n 0, 1) := by decide +kernel
theorem dX3_init_17 : decode cX3_init 17 = .ok (.bipush 6, 2) := by decide +kernel
theorem dX3_init_19 : decode cX3_init 19 = .ok (.newarray .int, 2) := by decide +kernel
theorem dX3_init_21 : decode cX3_init 21 = .ok (.dup, 1) := by decide +kernel
theorem dX3_init_22 : decode cX3_init 22 = .ok (.iconst 0, 1) := by decide +kernel
theorem dX3_init_23 : decode cX3_init 23 = .ok (.sipush 10000, 3) := by decide +kernel
theorem dX3_init_26 : decode cX3_init 26 = .ok (.iastore, 1) := by decide +kernel
theorem dX3_init_27 : decode cX3_init 27 = .ok (.dup, 1) := by decide +kernel
theorem dX3_init_28 : decode cX3_init 28 = .ok (.iconst 1, 1) := by decide +kernel
theorem dX3_init_29 : decode cX3_init 29 = .ok (.sipush 10000, 3) := by decide +kernel
theorem dX3_init_32 : decode cX3_init 32 = .ok (.iastore, 1) := by decide +kernel
theorem dX3_init_33 : decode cX3_init 33 = .ok (.dup, 1) := by decide +kernel
theorem dX3_init_34 : decode cX3_init 34 = .ok (.iconst 2, 1) := by decide +kernel
theorem dX3_init_35 : decode cX3_init 35 = .ok (.sipush 10000, 3) := by decide +kernel
theorem dX3_init_38 : decode cX3_init 38 = .ok (.iastore, 1) := by decide +kernel
theorem dX3_init_39 : decode cX3_init 39 = .ok (.dup, 1) := by decide +kernel
theorem dX3_init_40 : decode cX3_init 40 = .ok (.iconst 3, 1) := by decide +kernel
theorem dX3_init_41 : decode cX3_init 41 = .ok (.sipush 10000, 3) := by decide +kernel
theorem dX3_init_44 : decode cX3_init 44 = .ok (.iastore, 1) := by decide +kernel
theorem dX3_init_45 : decode cX3_init 45 = .ok (.dup, 1) := by decide +kernel
theorem dX3_init_46 : decode cX3_init 46 = .ok (.iconst 4, 1) := by decide +kernel
theorem dX3_init_47 : decode cX3_init 47 = .ok (.sipush 10000, 3) := by decide +kernel
theorem dX3_init_50 : decode cX3_init 50 = .ok (.iastore, 1) := by decide +kernel
theorem dX3_init_51 : decode cX3_init 51 = .ok (.dup, 1) := by decide +kernel
theorem dX3_init_52 : decode cX3_init 52 = .ok (.iconst 5, 1) := by decide +kernel
theorem dX3_init_53 : decode cX3_init 53 = .ok (.sipush 10000, 3) := by decide +kernel
theorem dX3_init_56 : decode cX3_init 56 = .ok (.iastore, 1) := by decide +kernel
theorem dX3_init_57 : decode cX3_init 57 = .ok (.putfield 18, 3) := by decide +kernel
theorem dX3_init_60 : decode cX3_init 60 = .ok (.aload_n 0, 1) := by decide +kernel
theorem dX3_init_61 : decode cX3_init 61 = .ok (.iconst 5, 1) := by decide +kernel
theorem dX3_init_62 : decode cX3_init 62 = .ok (.newarray .int, 2) := by decide +kernel
theorem dX3_init_64 : decode cX3_init 64 = .ok (.dup, 1) := by decide +kernel
theorem dX3_init_65 : decode cX3_init 65 = .ok (.iconst 0, 1) := by decide +kernel
theorem dX3_init_66 : decode cX3_init 66 = .ok (.sipush 10000, 3) := by decide +kernel
theorem dX3_init_69 : decode cX3_init 69 = .ok (.iastore, 1) := by decide +kernel
theorem dX3_init_70 : decode cX3_init 70 = .ok (.dup, 1) := by decide +kernel
theorem dX3_init_71 : decode cX3_init 71 = .ok (.iconst 1, 1) := by decide +kernel
theorem dX3_init_72 : decode cX3_init 72 = .ok (.sipush 10000, 3) := by decide +kernel
theorem dX3_init_75 : decode cX3_init 75 = .ok (.iastore, 1) := by decide +kernel
theorem dX3_init_76 : decode cX3_init 76 = .ok (.dup, 1) := by decide +kernel
theorem dX3_init_77 : decode cX3_init 77 = .ok (.iconst 2, 1) := by decide +kernel
theorem dX3_init_78 : decode cX3_init 78 = .ok (.sipush 10000, 3) := by decide +kernel
theorem dX3_init_81 : decode cX3_init 81 = .ok (.iastore, 1) := by decide +kernel
theorem dX3_init_82 : decode cX3_init 82 = .ok (.dup, 1) := by decide +kernel
theorem dX3_init_83 : decode cX3_init 83 = .ok (.iconst 3, 1) := by decide +kernel
theorem dX3_init_84 : decode cX3_init 84 = .ok (.sipush 10000, 3) := by decide +kernel
theorem dX3_init_87 : decode cX3_init 87 = .ok (.iastore, 1) := by decide +kernel
theorem dX3_init_88 : decode cX3_init 88 = .ok (.dup, 1) := by decide +kernel
theorem dX3_init_89 : decode cX3_init 89 = .ok (.iconst 4, 1) := by decide +kernel
theorem dX3_init_90 : decode cX3_init 90 = .ok (.sipush 10000, 3) := by decide +kernel
theorem dX3_init_93 : decode cX3_init 93 = .ok (.iastore, 1) := by decide +kernel
theorem dX3_init_94 : decode cX3_init 94 = .ok (.putfield 22, 3) := by decide +kernel
theorem dX3_init_97 : decode cX3_init 97 = .ok (.return_, 1) := by decide +kernel
theorem dX3_copyFrom_0 : decode cX3_copyFrom 0 = .ok (.aload_n 0, 1) := by decide +kernel
theorem dX3_copyFrom_1 : decode cX3_copyFrom 1 = .ok (.aload_n 1, 1) := by decide +kernel
theorem dX3_copyFrom_2 : decode cX3_copyFrom 2 = .ok (.getfield 9, 3) := by decide +kernel
theorem dX3_copyFrom_5 : decode cX3_copyFrom 5 = .ok (.putfield 9, 3) := by decide +kernel
theorem dX3_copyFrom_8 : decode cX3_copyFrom 8 = .ok (.aload_n 0, 1) := by decide +kernel
theorem dX3_copyFrom_9 : decode cX3_copyFrom 9 = .ok (.aload_n 1, 1) := by decide +kernel
theorem dX3_copyFrom_10 : decode cX3_copyFrom 10 = .ok (.getfield 15, 3) := by decide +kernel
theorem dX3_copyFrom_13 : decode cX3_copyFrom 13 = .ok (.putfield 15, 3) := by decide +kernel
theorem dX3_copyFrom_16 : decode cX3_copyFrom 16 = .ok (.aload_n 1, 1) := by decide +kernel
theorem dX3_copyFrom_17 : decode cX3_copyFrom 17 = .ok (.getfield 18, 3) := by decide +kernel
theorem dX3_copyFrom_20 : decode cX3_copyFrom 20 = .ok (.iconst 0, 1) := by decide +kernel
theorem dX3_copyFrom_21 : decode cX3_copyFrom 21 = .ok (.aload_n 0, 1) := by decide +kernel
theorem dX3_copyFrom_22 : decode cX3_copyFrom 22 = .ok (.getfield 18, 3) := by decide +kernel
theorem dX3_copyFrom_25 : decode cX3_copyFrom 25 = .ok (.iconst 0, 1) := by decide +kernel
theorem dX3_copyFrom_26 : decode cX3_copyFrom 26 = .ok (.bipush 6, 2) := by decide +kernel
theorem dX3_copyFrom_28 : decode cX3_copyFrom 28 = .ok (.invokestatic 25, 3) := by decide +kernel
theorem dX3_copyFrom_31 : decode cX3_copyFrom 31 = .ok (.aload_n 1, 1) := by decide +kernel
theorem dX3_copyFrom_32 : decode cX3_copyFrom 32 = .ok (.getfield 22, 3) := by decide +kernel
theorem dX3_copyFrom_35 : decode cX3_copyFrom 35 = .ok (.iconst 0, 1) := by decide +kernel
theorem dX3_copyFrom_36 : decode cX3_copyFrom 36 = .ok (.aload_n 0, 1) := by decide +kernel
theorem dX3_copyFrom_37 : decode cX3_copyFrom 37 = .ok (.getfield 22, 3) := by decide +kernel
theorem dX3_copyFrom_40 : decode cX3_copyFrom 40 = .ok (.iconst 0, 1) := by decide +kernel
theorem dX3_copyFrom_41 : decode cX3_copyFrom 41 = .ok (.iconst 5, 1) := by decide +kernel
theorem dX3_copyFrom_42 : decode cX3_copyFrom 42 = .ok (.invokestatic 25, 3) := by decide +kernel
theorem dX3_copyFrom_45 : decode cX3_copyFrom 45 = .ok (.return_, 1) := by decide +kernel
set_option maxRecDepth 20000 in
theorem ggX3_densityAt_J9_floorDiv_f86c9 : GoodIn wsX3_densityAt wsJ9_floorDiv_f86c9 := goodIn_r _ [12] (by decide +kernel) (by decide +kernel)
set_option maxRecDepth 20000 in
theorem gX3_densityAt_J9_floorDiv_f86c9 : GoodIn wsX3_densityAt (va_wsS RX3 41 yJ9_floorDiv_f86c9 wsJ9_floorDiv_f86c9) := goodIn_app (goodIn_of _ (by decide +kernel)) ggX3_densityAt_J9_floorDiv_f86c9
set_option maxRecDepth 20000 in
theorem ggX3_densityAt_X3_interpolated : GoodIn wsX3_densityAt wsX3_interpolated := goodIn_r _ [16, 17, 18, 5, 19, 9, 10, 11, 12] (by decide +kernel) (by decide +kernel)
set_option maxRecDepth 20000 in
theorem gX3_densityAt_X3_interpolated : GoodIn wsX3_densityAt (va_wsS RX3 48 yX3_interpolated wsX3_interpolated) := goodIn_app (goodIn_of _ (by decide +kernel)) ggX3_densityAt_X3_interpolated
theorem dX3_densityAt_0 : decode cX3_densityAt 0 = .ok (.aload_n 0, 1) := by decide +kernel
theorem dX3_densityAt_1 : decode cX3_densityAt 1 = .ok (.getfield 9, 3) := by decide +kernel
theorem dX3_densityAt_4 : decode cX3_densityAt 4 = .ok (.iconst 1, 1) := by decide +kernel
theorem dX3_densityAt_5 : decode cX3_densityAt 5 = .ok (.if_icmp .ne 41, 3) := by decide +kernel
theorem dX3_densityAt_8 : decode cX3_densityAt 8 = .ok (.aload_n 0, 1) := by decide +kernel
theorem dX3_densityAt_9 : decode cX3_densityAt 9 = .ok (.getfield 18, 3) := by decide +kernel
theorem dX3_densityAt_12 : decode cX3_densityAt 12 = .ok (.iconst 0, 1) := by decide +kernel
theorem dX3_densityAt_13 : decode cX3_densityAt 13 = .ok (.iaload, 1) := by decide +kernel
theorem dX3_densityAt_14 : decode cX3_densityAt 14 = .ok (.i2l, 1) := by decide +kernel
theorem dX3_densityAt_15 : decode cX3_densityAt 15 = .ok (.iconst 0, 1) := by decide +kernel
theorem dX3_densityAt_16 : decode cX3_densityAt 16 = .ok (.iload_n 1, 1) := by decide +kernel
theorem dX3_densityAt_17 : decode cX3_densityAt 17 = .ok (.invokestatic 31, 3) := by decide +kernel
theorem dX3_densityAt_20 : decode cX3_densityAt 20 = .ok (.i2l, 1) := by decide +kernel
theorem dX3_densityAt_21 : decode cX3_densityAt 21 = .ok (.lmul, 1) := by decide +kernel
theorem dX3_densityAt_22 : decode cX3_densityAt 22 = .ok (.ldc2_w 37, 3) := by decide +kernel
theorem dX3_densityAt_25 : decode cX3_densityAt 25 = .ok (.lmul, 1) := by decide +kernel
theorem dX3_densityAt_26 : decode cX3_densityAt 26 = .ok (.lstore_n 3, 1) := by decide +kernel
theorem dX3_densityAt_27 : decode cX3_densityAt 27 = .ok (.lload_n 3, 1) := by decide +kernel
theorem dX3_densityAt_28 : decode cX3_densityAt 28 = .ok (.ldc2_w 39, 3) := by decide +kernel
theorem dX3_densityAt_31 : decode cX3_densityAt 31 = .ok (.iconst 1, 1) := by decide +kernel
theorem dX3_densityAt_32 : decode cX3_densityAt 32 = .ok (.iload_n 2, 1) := by decide +kernel
theorem dX3_densityAt_33 : decode cX3_densityAt 33 = .ok (.sipush 2731, 3) := by decide +kernel
theorem dX3_densityAt_36 : decode cX3_densityAt 36 = .ok (.iadd, 1) := by decide +kernel
theorem dX3_densityAt_37 : decode cX3_densityAt 37 = .ok (.invokestatic 31, 3) := by decide +kernel
theorem dX3_densityAt_40 : decode cX3_densityAt 40 = .ok (.i2l, 1) := by decide +kernel
theorem dX3_densityAt_41 : decode cX3_densityAt 41 = .ok (.lmul, 1) := by decide +kernel
theorem dX3_densityAt_42 : decode cX3_densityAt 42 = .ok (.invokestatic 41, 3) := by decide +kernel
theorem dX3_densityAt_45 : decode cX3_densityAt 45 = .ok (.lreturn, 1) := by decide +kernel
theorem dX3_densityAt_46 : decode cX3_densityAt 46 = .ok (.getstatic 45, 3) := by decide +kernel
theorem dX3_densityAt_49 : decode cX3_densityAt 49 = .ok (.aload_n 0, 1) := by decide +kernel
theorem dX3_densityAt_50 : decode cX3_densityAt 50 = .ok (.getfield 18, 3) := by decide +kernel
theorem dX3_densityAt_53 : decode cX3_densityAt 53 = .ok (.iload_n 2, 1) := by decide +kernel
theorem dX3_densityAt_54 : decode cX3_densityAt 54 = .ok (.i2l, 1) := by decide +kernel
theorem dX3_densityAt_55 : decode cX3_densityAt 55 = .ok (.invokestatic 48, 3) := by decide +kernel
theorem dX3_densityAt_58 : decode cX3_densityAt 58 = .ok (.lreturn, 1) := by decide +kernel
set_option maxRecDepth 20000 in
theorem ggX3_flowAt_X3_squareRoot : GoodIn wsX3_flowAt wsX3_squareRoot := goodIn_r _ [10, 11] (by decide +kernel) (by decide +kernel)
set_option maxRecDepth 20000 in
theorem gX3_flowAt_X3_squareRoot : GoodIn wsX3_flowAt (va_wsS RX3 54 yX3_squareRoot wsX3_squareRoot) := goodIn_app (goodIn_of _ (by decide +kernel)) ggX3_flowAt_X3_squareRoot
set_option maxRecDepth 20000 in
theorem ggX3_flowAt_J9_floorDiv_f86c9 : GoodIn wsX3_flowAt wsJ9_floorDiv_f86c9 := goodIn_r _ [15] (by decide +kernel) (by decide +kernel)
set_option maxRecDepth 20000 in
theorem gX3_flowAt_J9_floorDiv_f86c9 : GoodIn wsX3_flowAt (va_wsS RX3 41 yJ9_floorDiv_f86c9 wsJ9_floorDiv_f86c9) := goodIn_app (goodIn_of _ (by decide +kernel)) ggX3_flowAt_J9_floorDiv_f86c9
set_option maxRecDepth 20000 in
theorem ggX3_flowAt_X3_expansion : GoodIn wsX3_flowAt wsX3_expansion := goodIn_r _ [18, 19, 20, 21, 22, 23, 24, 14, 25] (by decide +kernel) (by decide +kernel)
set_option maxRecDepth 20000 in
theorem gX3_flowAt_X3_expansion : GoodIn wsX3_flowAt (va_wsS RX3 60 yX3_expansion wsX3_expansion) := goodIn_app (goodIn_of _ (by decide +kernel)) ggX3_flowAt_X3_expansion
set_option maxRecDepth 20000 in
theorem ggX3_flowAt_X3_interpolated : GoodIn wsX3_flowAt wsX3_interpolated := goodIn_r _ [28, 29, 30, 21, 31, 12, 13, 14, 15] (by decide +kernel) (by decide +kernel)
set_option maxRecDepth 20000 in
theorem gX3_flowAt_X3_interpolated : GoodIn wsX3_flowAt (va_wsS RX3 48 yX3_interpolated wsX3_interpolated) := goodIn_app (goodIn_of _ (by decide +kernel)) ggX3_flowAt_X3_interpolated
theorem dX3_flowAt_0 : decode cX3_flowAt 0 = .ok (.ldc2_w 52, 3) := by decide +kernel
theorem dX3_flowAt_3 : decode cX3_flowAt 3 = .ok (.iload_n 1, 1) := by decide +kernel
theorem dX3_flowAt_4 : decode cX3_flowAt 4 = .ok (.i2l, 1) := by decide +kernel
theorem dX3_flowAt_5 : decode cX3_flowAt 5 = .ok (.lmul, 1) := by decide +kernel
theorem dX3_flowAt_6 : decode cX3_flowAt 6 = .ok (.lload_n 3, 1) := by decide +kernel
theorem dX3_flowAt_7 : decode cX3_flowAt 7 = .ok (.lmul, 1) := by decide +kernel
theorem dX3_flowAt_8 : decode cX3_flowAt 8 = .ok (.invokestatic 54, 3) := by decide +kernel
theorem dX3_flowAt_11 : decode cX3_flowAt 11 = .ok (.lstore 5, 2) := by decide +kernel
theorem dX3_flowAt_13 : decode cX3_flowAt 13 = .ok (.aload_n 0, 1) := by decide +kernel
theorem dX3_flowAt_14 : decode cX3_flowAt 14 = .ok (.getfield 15, 3) := by decide +kernel
theorem dX3_flowAt_17 : decode cX3_flowAt 17 = .ok (.i2l, 1) := by decide +kernel
theorem dX3_flowAt_18 : decode cX3_flowAt 18 = .ok (.lload 5, 2) := by decide +kernel
theorem dX3_flowAt_20 : decode cX3_flowAt 20 = .ok (.lmul, 1) := by decide +kernel
theorem dX3_flowAt_21 : decode cX3_flowAt 21 = .ok (.ldc2_w 58, 3) := by decide +kernel
theorem dX3_flowAt_24 : decode cX3_flowAt 24 = .ok (.invokestatic 41, 3) := by decide +kernel
theorem dX3_flowAt_27 : decode cX3_flowAt 27 = .ok (.lstore 7, 2) := by decide +kernel
theorem dX3_flowAt_29 : decode cX3_flowAt 29 = .ok (.aload_n 0, 1) := by decide +kernel
theorem dX3_flowAt_30 : decode cX3_flowAt 30 = .ok (.getfield 9, 3) := by decide +kernel
theorem dX3_flowAt_33 : decode cX3_flowAt 33 = .ok (.iconst 1, 1) := by decide +kernel
theorem dX3_flowAt_34 : decode cX3_flowAt 34 = .ok (.if_icmp .ne 20, 3) := by decide +kernel
theorem dX3_flowAt_37 : decode cX3_flowAt 37 = .ok (.lload 7, 2) := by decide +kernel
theorem dX3_flowAt_39 : decode cX3_flowAt 39 = .ok (.iload_n 1, 1) := by decide +kernel
theorem dX3_flowAt_40 : decode cX3_flowAt 40 = .ok (.iload_n 2, 1) := by decide +kernel
theorem dX3_flowAt_41 : decode cX3_flowAt 41 = .ok (.invokestatic 60, 3) := by decide +kernel
theorem dX3_flowAt_44 : decode cX3_flowAt 44 = .ok (.i2l, 1) := by decide +kernel
theorem dX3_flowAt_45 : decode cX3_flowAt 45 = .ok (.lmul, 1) := by decide +kernel
theorem dX3_flowAt_46 : decode cX3_flowAt 46 = .ok (.ldc2_w 63, 3) := by decide +kernel
theorem dX3_flowAt_49 : decode cX3_flowAt 49 = .ok (.invokestatic 41, 3) := by decide +kernel
theorem dX3_flowAt_52 : decode cX3_flowAt 52 = .ok (.lstore 7, 2) := by decide +kernel
theorem dX3_flowAt_54 : decode cX3_flowAt 54 = .ok (.getstatic 65, 3) := by decide +kernel
theorem dX3_flowAt_57 : decode cX3_flowAt 57 = .ok (.aload_n 0, 1) := by decide +kernel
theorem dX3_flowAt_58 : decode cX3_flowAt 58 = .ok (.getfield 22, 3) := by decide +kernel
theorem dX3_flowAt_61 : decode cX3_flowAt 61 = .ok (.lload 7, 2) := by decide +kernel
theorem dX3_flowAt_63 : decode cX3_flowAt 63 = .ok (.invokestatic 48, 3) := by decide +kernel
theorem dX3_flowAt_66 : decode cX3_flowAt 66 = .ok (.lstore 9, 2) := by decide +kernel
theorem dX3_flowAt_68 : decode cX3_flowAt 68 = .ok (.lload 7, 2) := by decide +kernel
theorem dX3_flowAt_70 : decode cX3_flowAt 70 = .ok (.lload 9, 2) := by decide +kernel
theorem dX3_flowAt_72 : decode cX3_flowAt 72 = .ok (.lmul, 1) := by decide +kernel
theorem dX3_flowAt_73 : decode cX3_flowAt 73 = .ok (.ldc2_w 58, 3) := by decide +kernel
theorem dX3_flowAt_76 : decode cX3_flowAt 76 = .ok (.invokestatic 41, 3) := by decide +kernel
theorem dX3_flowAt_79 : decode cX3_flowAt 79 = .ok (.lreturn, 1) := by decide +kernel
set_option maxRecDepth 20000 in
theorem ggX3_expansion_J9_floorDiv_7cf53 : GoodIn wsX3_expansion wsJ9_floorDiv_7cf53 := goodIn_r _ [8] (by decide +kernel) (by decide +kernel)
set_option maxRecDepth 20000 in
theorem gX3_expansion_J9_floorDiv_7cf53 : GoodIn wsX3_expansion (va_wsS RX3 68 yJ9_floorDiv_7cf53 wsJ9_floorDiv_7cf53) := goodIn_app (goodIn_of _ (by decide +kernel)) ggX3_expansion_J9_floorDiv_7cf53
theorem dX3_expansion_0 : decode cX3_expansion 0 = .ok (.sipush 700, 3) := by decide +kernel
theorem dX3_expansion_3 : decode cX3_expansion 3 = .ok (.sipush 1000, 3) := by decide +kernel
theorem dX3_expansion_6 : decode cX3_expansion 6 = .ok (.sipush 300, 3) := by decide +kernel
theorem dX3_expansion_9 : decode cX3_expansion 9 = .ok (.iload_n 0, 1) := by decide +kernel
theorem dX3_expansion_10 : decode cX3_expansion 10 = .ok (.imul, 1) := by decide +kernel
theorem dX3_expansion_11 : decode cX3_expansion 11 = .ok (.bipush 100, 2) := by decide +kernel
theorem dX3_expansion_13 : decode cX3_expansion 13 = .ok (.iconst 1, 1) := by decide +kernel
theorem dX3_expansion_14 : decode cX3_expansion 14 = .ok (.iload_n 1, 1) := by decide +kernel
theorem dX3_expansion_15 : decode cX3_expansion 15 = .ok (.invokestatic 31, 3) := by decide +kernel
theorem dX3_expansion_18 : decode cX3_expansion 18 = .ok (.imul, 1) := by decide +kernel
theorem dX3_expansion_19 : decode cX3_expansion 19 = .ok (.invokestatic 68, 3) := by decide +kernel
theorem dX3_expansion_22 : decode cX3_expansion 22 = .ok (.isub, 1) := by decide +kernel
theorem dX3_expansion_23 : decode cX3_expansion 23 = .ok (.invokestatic 31, 3) := by decide +kernel
theorem dX3_expansion_26 : decode cX3_expansion 26 = .ok (.ireturn, 1) := by decide +kernel
theorem dX3_squareRoot_0 : decode cX3_squareRoot 0 = .ok (.lconst 0, 1) := by decide +kernel
theorem dX3_squareRoot_1 : decode cX3_squareRoot 1 = .ok (.lstore_n 2, 1) := by decide +kernel
theorem dX3_squareRoot_2 : decode cX3_squareRoot 2 = .ok (.ldc2_w 70, 3) := by decide +kernel
theorem dX3_squareRoot_5 : decode cX3_squareRoot 5 = .ok (.lstore 4, 2) := by decide +kernel
theorem dX3_squareRoot_7 : decode cX3_squareRoot 7 = .ok (.lload 4, 2) := by decide +kernel
theorem dX3_squareRoot_9 : decode cX3_squareRoot 9 = .ok (.lconst 0, 1) := by decide +kernel
theorem dX3_squareRoot_10 : decode cX3_squareRoot 10 = .ok (.lcmp, 1) := by decide +kernel
theorem dX3_squareRoot_11 : decode cX3_squareRoot 11 = .ok (.ifCond .le 31, 3) := by decide +kernel
theorem dX3_squareRoot_14 : decode cX3_squareRoot 14 = .ok (.lload_n 2, 1) := by decide +kernel
theorem dX3_squareRoot_15 : decode cX3_squareRoot 15 = .ok (.lload 4, 2) := by decide +kernel
theorem dX3_squareRoot_17 : decode cX3_squareRoot 17 = .ok (.ladd, 1) := by decide +kernel
theorem dX3_squareRoot_18 : decode cX3_squareRoot 18 = .ok (.lstore 6, 2) := by decide +kernel
theorem dX3_squareRoot_20 : decode cX3_squareRoot 20 = .ok (.lload 6, 2) := by decide +kernel
theorem dX3_squareRoot_22 : decode cX3_squareRoot 22 = .ok (.lload 6, 2) := by decide +kernel
theorem dX3_squareRoot_24 : decode cX3_squareRoot 24 = .ok (.lmul, 1) := by decide +kernel
theorem dX3_squareRoot_25 : decode cX3_squareRoot 25 = .ok (.lload_n 0, 1) := by decide +kernel
theorem dX3_squareRoot_26 : decode cX3_squareRoot 26 = .ok (.lcmp, 1) := by decide +kernel
theorem dX3_squareRoot_27 : decode cX3_squareRoot 27 = .ok (.ifCond .gt 6, 3) := by decide +kernel
theorem dX3_squareRoot_30 : decode cX3_squareRoot 30 = .ok (.lload 6, 2) := by decide +kernel
theorem dX3_squareRoot_32 : decode cX3_squareRoot 32 = .ok (.lstore_n 2, 1) := by decide +kernel
theorem dX3_squareRoot_33 : decode cX3_squareRoot 33 = .ok (.lload 4, 2) := by decide +kernel
theorem dX3_squareRoot_35 : decode cX3_squareRoot 35 = .ok (.iconst 1, 1) := by decide +kernel
theorem dX3_squareRoot_36 : decode cX3_squareRoot 36 = .ok (.lshr, 1) := by decide +kernel
theorem dX3_squareRoot_37 : decode cX3_squareRoot 37 = .ok (.lstore 4, 2) := by decide +kernel
theorem dX3_squareRoot_39 : decode cX3_squareRoot 39 = .ok (.goto (-32), 3) := by decide +kernel
theorem dX3_squareRoot_42 : decode cX3_squareRoot 42 = .ok (.lload_n 2, 1) := by decide +kernel
theorem dX3_squareRoot_43 : decode cX3_squareRoot 43 = .ok (.lreturn, 1) := by decide +kernel
set_option maxRecDepth 20000 in
theorem ggX3_interpolated_J9_floorDiv_f86c9 : GoodIn wsX3_interpolated wsJ9_floorDiv_f86c9 := goodIn_r _ [8] (by decide +kernel) (by decide +kernel)
set_option maxRecDepth 20000 in
theorem gX3_interpolated_J9_floorDiv_f86c9 : GoodIn wsX3_interpolated (va_wsS RX3 41 yJ9_floorDiv_f86c9 wsJ9_floorDiv_f86c9) := goodIn_app (goodIn_of _ (by decide +kernel)) ggX3_interpolated_J9_floorDiv_f86c9
theorem dX3_interpolated_0 : decode cX3_interpolated 0 = .ok (.lconst 0, 1) := by decide +kernel
theorem dX3_interpolated_1 : decode cX3_interpolated 1 = .ok (.lstore 4, 2) := by decide +kernel
theorem dX3_interpolated_3 : decode cX3_interpolated 3 = .ok (.iconst 0, 1) := by decide +kernel
theorem dX3_interpolated_4 : decode cX3_interpolated 4 = .ok (.istore 6, 2) := by decide +kernel
theorem dX3_interpolated_6 : decode cX3_interpolated 6 = .ok (.iload 6, 2) := by decide +kernel
theorem dX3_interpolated_8 : decode cX3_interpolated 8 = .ok (.aload_n 0, 1) := by decide +kernel
theorem dX3_interpolated_9 : decode cX3_interpolated 9 = .ok (.arraylength, 1) := by decide +kernel
theorem dX3_interpolated_10 : decode cX3_interpolated 10 = .ok (.if_icmp .ge 109, 3) := by decide +kernel
theorem dX3_interpolated_13 : decode cX3_interpolated 13 = .ok (.iload 6, 2) := by decide +kernel
theorem dX3_interpolated_15 : decode cX3_interpolated 15 = .ok (.aload_n 1, 1) := by decide +kernel
theorem dX3_interpolated_16 : decode cX3_interpolated 16 = .ok (.arraylength, 1) := by decide +kernel
theorem dX3_interpolated_17 : decode cX3_interpolated 17 = .ok (.if_icmp .ge 102, 3) := by decide +kernel
theorem dX3_interpolated_20 : decode cX3_interpolated 20 = .ok (.iload 6, 2) := by decide +kernel
theorem dX3_interpolated_22 : decode cX3_interpolated 22 = .ok (.ifCond .le 84, 3) := by decide +kernel
theorem dX3_interpolated_25 : decode cX3_interpolated 25 = .ok (.lload_n 2, 1) := by decide +kernel
theorem dX3_interpolated_26 : decode cX3_interpolated 26 = .ok (.aload_n 0, 1) := by decide +kernel
theorem dX3_interpolated_27 : decode cX3_interpolated 27 = .ok (.iload 6, 2) := by decide +kernel
theorem dX3_interpolated_29 : decode cX3_interpolated 29 = .ok (.iaload, 1) := by decide +kernel
theorem dX3_interpolated_30 : decode cX3_interpolated 30 = .ok (.i2l, 1) := by decide +kernel
theorem dX3_interpolated_31 : decode cX3_interpolated 31 = .ok (.lcmp, 1) := by decide +kernel
theorem dX3_interpolated_32 : decode cX3_interpolated 32 = .ok (.ifCond .ge 74, 3) := by decide +kernel
theorem dX3_interpolated_35 : decode cX3_interpolated 35 = .ok (.aload_n 0, 1) := by decide +kernel
theorem dX3_interpolated_36 : decode cX3_interpolated 36 = .ok (.iload 6, 2) := by decide +kernel
theorem dX3_interpolated_38 : decode cX3_interpolated 38 = .ok (.iconst 1, 1) := by decide +kernel
theorem dX3_interpolated_39 : decode cX3_interpolated 39 = .ok (.isub, 1) := by decide +kernel
theorem dX3_interpolated_40 : decode cX3_interpolated 40 = .ok (.iaload, 1) := by decide +kernel
theorem dX3_interpolated_41 : decode cX3_interpolated 41 = .ok (.aload_n 0, 1) := by decide +kernel
theorem dX3_interpolated_42 : decode cX3_interpolated 42 = .ok (.iload 6, 2) := by decide +kernel
theorem dX3_interpolated_44 : decode cX3_interpolated 44 = .ok (.iaload, 1) := by decide +kernel
theorem dX3_interpolated_45 : decode cX3_interpolated 45 = .ok (.if_icmp .ge 61, 3) := by decide +kernel
theorem dX3_interpolated_48 : decode cX3_interpolated 48 = .ok (.lconst 0, 1) := by decide +kernel
theorem dX3_interpolated_49 : decode cX3_interpolated 49 = .ok (.lload_n 2, 1) := by decide +kernel
theorem dX3_interpolated_50 : decode cX3_interpolated 50 = .ok (.aload_n 0, 1) := by decide +kernel
theorem dX3_interpolated_51 : decode cX3_interpolated 51 = .ok (.iload 6, 2) := by decide +kernel
theorem dX3_interpolated_53 : decode cX3_interpolated 53 = .ok (.iconst 1, 1) := by decide +kernel
theorem dX3_interpolated_54 : decode cX3_interpolated 54 = .ok (.isub, 1) := by decide +kernel
theorem dX3_interpolated_55 : decode cX3_interpolated 55 = .ok (.iaload, 1) := by decide +kernel
theorem dX3_interpolated_56 : decode cX3_interpolated 56 = .ok (.i2l, 1) := by decide +kernel
theorem dX3_interpolated_57 : decode cX3_interpolated 57 = .ok (.lsub, 1) := by decide +kernel
theorem dX3_interpolated_58 : decode cX3_interpolated 58 = .ok (.invokestatic 72, 3) := by decide +kernel
theorem dX3_interpolated_61 : decode cX3_interpolated 61 = .ok (.lstore 7, 2) := by decide +kernel
theorem dX3_interpolated_63 : decode cX3_interpolated 63 = .ok (.aload_n 1, 1) := by decide +kernel
theorem dX3_interpolated_64 : decode cX3_interpolated 64 = .ok (.iload 6, 2) := by decide +kernel
theorem dX3_interpolated_66 : decode cX3_interpolated 66 = .ok (.iaload, 1) := by decide +kernel
theorem dX3_interpolated_67 : decode cX3_interpolated 67 = .ok (.aload_n 1, 1) := by decide +kernel
theorem dX3_interpolated_68 : decode cX3_interpolated 68 = .ok (.iload 6, 2) := by decide +kernel
theorem dX3_interpolated_70 : decode cX3_interpolated 70 = .ok (.iconst 1, 1) := by decide +kernel
theorem dX3_interpolated_71 : decode cX3_interpolated 71 = .ok (.isub, 1) := by decide +kernel
theorem dX3_interpolated_72 : decode cX3_interpolated 72 = .ok (.iaload, 1) := by decide +kernel
theorem dX3_interpolated_73 : decode cX3_interpolated 73 = .ok (.isub, 1) := by decide +kernel
theorem dX3_interpolated_74 : decode cX3_interpolated 74 = .ok (.i2l, 1) := by decide +kernel
theorem dX3_interpolated_75 : decode cX3_interpolated 75 = .ok (.lstore 9, 2) := by decide +kernel
theorem dX3_interpolated_77 : decode cX3_interpolated 77 = .ok (.aload_n 1, 1) := by decide +kernel
theorem dX3_interpolated_78 : decode cX3_interpolated 78 = .ok (.iload 6, 2) := by decide +kernel
theorem dX3_interpolated_80 : decode cX3_interpolated 80 = .ok (.iconst 1, 1) := by decide +kernel
theorem dX3_interpolated_81 : decode cX3_interpolated 81 = .ok (.isub, 1) := by decide +kernel
theorem dX3_interpolated_82 : decode cX3_interpolated 82 = .ok (.iaload, 1) := by decide +kernel
theorem dX3_interpolated_83 : decode cX3_interpolated 83 = .ok (.i2l, 1) := by decide +kernel
theorem dX3_interpolated_84 : decode cX3_interpolated 84 = .ok (.lload 9, 2) := by decide +kernel
theorem dX3_interpolated_86 : decode cX3_interpolated 86 = .ok (.lload 7, 2) := by decide +kernel
theorem dX3_interpolated_88 : decode cX3_interpolated 88 = .ok (.lmul, 1) := by decide +kernel
theorem dX3_interpolated_89 : decode cX3_interpolated 89 = .ok (.aload_n 0, 1) := by decide +kernel
theorem dX3_interpolated_90 : decode cX3_interpolated 90 = .ok (.iload 6, 2) := by decide +kernel
theorem dX3_interpolated_92 : decode cX3_interpolated 92 = .ok (.iaload, 1) := by decide +kernel
theorem dX3_interpolated_93 : decode cX3_interpolated 93 = .ok (.aload_n 0, 1) := by decide +kernel
theorem dX3_interpolated_94 : decode cX3_interpolated 94 = .ok (.iload 6, 2) := by decide +kernel
theorem dX3_interpolated_96 : decode cX3_interpolated 96 = .ok (.iconst 1, 1) := by decide +kernel
theorem dX3_interpolated_97 : decode cX3_interpolated 97 = .ok (.isub, 1) := by decide +kernel
theorem dX3_interpolated_98 : decode cX3_interpolated 98 = .ok (.iaload, 1) := by decide +kernel
theorem dX3_interpolated_99 : decode cX3_interpolated 99 = .ok (.isub, 1) := by decide +kernel
theorem dX3_interpolated_100 : decode cX3_interpolated 100 = .ok (.i2l, 1) := by decide +kernel
theorem dX3_interpolated_101 : decode cX3_interpolated 101 = .ok (.invokestatic 41, 3) := by decide +kernel
theorem dX3_interpolated_104 : decode cX3_interpolated 104 = .ok (.ladd, 1) := by decide +kernel
theorem dX3_interpolated_105 : decode cX3_interpolated 105 = .ok (.lreturn, 1) := by decide +kernel
theorem dX3_interpolated_106 : decode cX3_interpolated 106 = .ok (.aload_n 1, 1) := by decide +kernel
theorem dX3_interpolated_107 : decode cX3_interpolated 107 = .ok (.iload 6, 2) := by decide +kernel
theorem dX3_interpolated_109 : decode cX3_interpolated 109 = .ok (.iaload, 1) := by decide +kernel
theorem dX3_interpolated_110 : decode cX3_interpolated 110 = .ok (.i2l, 1) := by decide +kernel
theorem dX3_interpolated_111 : decode cX3_interpolated 111 = .ok (.lstore 4, 2) := by decide +kernel
theorem dX3_interpolated_113 : decode cX3_interpolated 113 = .ok (.iinc 6 1, 3) := by decide +kernel
theorem dX3_interpolated_116 : decode cX3_interpolated 116 = .ok (.goto (-110), 3) := by decide +kernel
theorem dX3_interpolated_119 : decode cX3_interpolated 119 = .ok (.lload 4, 2) := by decide +kernel
theorem dX3_interpolated_121 : decode cX3_interpolated 121 = .ok (.lreturn, 1) := by decide +kernel
set_option maxRecDepth 20000 in
theorem ggX3_hashOfTables_X9_hashed : GoodIn wsX3_hashOfTables wsX9_hashed := goodIn_r _ [5, 6] (by decide +kernel) (by decide +kernel)
set_option maxRecDepth 20000 in
theorem gX3_hashOfTables_X9_hashed_n74 : GoodIn wsX3_hashOfTables (wsX9_hashed) := ggX3_hashOfTables_X9_hashed
theorem dX3_hashOfTables_0 : decode cX3_hashOfTables 0 = .ok (.lload_n 1, 1) := by decide +kernel
theorem dX3_hashOfTables_1 : decode cX3_hashOfTables 1 = .ok (.lstore_n 3, 1) := by decide +kernel
theorem dX3_hashOfTables_2 : decode cX3_hashOfTables 2 = .ok (.iconst 0, 1) := by decide +kernel
theorem dX3_hashOfTables_3 : decode cX3_hashOfTables 3 = .ok (.istore 5, 2) := by decide +kernel
theorem dX3_hashOfTables_5 : decode cX3_hashOfTables 5 = .ok (.iload 5, 2) := by decide +kernel
theorem dX3_hashOfTables_7 : decode cX3_hashOfTables 7 = .ok (.aload_n 0, 1) := by decide +kernel
theorem dX3_hashOfTables_8 : decode cX3_hashOfTables 8 = .ok (.getfield 18, 3) := by decide +kernel
theorem dX3_hashOfTables_11 : decode cX3_hashOfTables 11 = .ok (.arraylength, 1) := by decide +kernel
theorem dX3_hashOfTables_12 : decode cX3_hashOfTables 12 = .ok (.if_icmp .ge 22, 3) := by decide +kernel
theorem dX3_hashOfTables_15 : decode cX3_hashOfTables 15 = .ok (.lload_n 3, 1) := by decide +kernel
theorem dX3_hashOfTables_16 : decode cX3_hashOfTables 16 = .ok (.aload_n 0, 1) := by decide +kernel
theorem dX3_hashOfTables_17 : decode cX3_hashOfTables 17 = .ok (.getfield 18, 3) := by decide +kernel
theorem dX3_hashOfTables_20 : decode cX3_hashOfTables 20 = .ok (.iload 5, 2) := by decide +kernel
theorem dX3_hashOfTables_22 : decode cX3_hashOfTables 22 = .ok (.iaload, 1) := by decide +kernel
theorem dX3_hashOfTables_23 : decode cX3_hashOfTables 23 = .ok (.i2l, 1) := by decide +kernel
theorem dX3_hashOfTables_24 : decode cX3_hashOfTables 24 = .ok (.invokestatic 74, 3) := by decide +kernel
theorem dX3_hashOfTables_27 : decode cX3_hashOfTables 27 = .ok (.lstore_n 3, 1) := by decide +kernel
theorem dX3_hashOfTables_28 : decode cX3_hashOfTables 28 = .ok (.iinc 5 1, 3) := by decide +kernel
theorem dX3_hashOfTables_31 : decode cX3_hashOfTables 31 = .ok (.goto (-26), 3) := by decide +kernel
theorem dX3_hashOfTables_34 : decode cX3_hashOfTables 34 = .ok (.iconst 0, 1) := by decide +kernel
theorem dX3_hashOfTables_35 : decode cX3_hashOfTables 35 = .ok (.istore 5, 2) := by decide +kernel
theorem dX3_hashOfTables_37 : decode cX3_hashOfTables 37 = .ok (.iload 5, 2) := by decide +kernel
theorem dX3_hashOfTables_39 : decode cX3_hashOfTables 39 = .ok (.aload_n 0, 1) := by decide +kernel
theorem dX3_hashOfTables_40 : decode cX3_hashOfTables 40 = .ok (.getfield 22, 3) := by decide +kernel
theorem dX3_hashOfTables_43 : decode cX3_hashOfTables 43 = .ok (.arraylength, 1) := by decide +kernel
theorem dX3_hashOfTables_44 : decode cX3_hashOfTables 44 = .ok (.if_icmp .ge 22, 3) := by decide +kernel
theorem dX3_hashOfTables_47 : decode cX3_hashOfTables 47 = .ok (.lload_n 3, 1) := by decide +kernel
theorem dX3_hashOfTables_48 : decode cX3_hashOfTables 48 = .ok (.aload_n 0, 1) := by decide +kernel
theorem dX3_hashOfTables_49 : decode cX3_hashOfTables 49 = .ok (.getfield 22, 3) := by decide +kernel
theorem dX3_hashOfTables_52 : decode cX3_hashOfTables 52 = .ok (.iload 5, 2) := by decide +kernel
theorem dX3_hashOfTables_54 : decode cX3_hashOfTables 54 = .ok (.iaload, 1) := by decide +kernel
theorem dX3_hashOfTables_55 : decode cX3_hashOfTables 55 = .ok (.i2l, 1) := by decide +kernel
theorem dX3_hashOfTables_56 : decode cX3_hashOfTables 56 = .ok (.invokestatic 74, 3) := by decide +kernel
theorem dX3_hashOfTables_59 : decode cX3_hashOfTables 59 = .ok (.lstore_n 3, 1) := by decide +kernel
theorem dX3_hashOfTables_60 : decode cX3_hashOfTables 60 = .ok (.iinc 5 1, 3) := by decide +kernel
theorem dX3_hashOfTables_63 : decode cX3_hashOfTables 63 = .ok (.goto (-26), 3) := by decide +kernel
theorem dX3_hashOfTables_66 : decode cX3_hashOfTables 66 = .ok (.lload_n 3, 1) := by decide +kernel
theorem dX3_hashOfTables_67 : decode cX3_hashOfTables 67 = .ok (.lreturn, 1) := by decide +kernel
theorem dX4_init_0 : decode cX4_init 0 = .ok (.aload_n 0, 1) := by decide +kernel
theorem dX4_init_1 : decode cX4_init 1 = .ok (.invokespecial 1, 3) := by decide +kernel
theorem dX4_init_4 : decode cX4_init 4 = .ok (.aload_n 0, 1) := by decide +kernel
theorem dX4_init_5 : decode cX4_init 5 = .ok (.iload_n 1, 1) := by decide +kernel
theorem dX4_init_6 : decode cX4_init 6 = .ok (.putfield 7, 3) := by decide +kernel
theorem dX4_init_9 : decode cX4_init 9 = .ok (.aload_n 0, 1) := by decide +kernel
theorem dX4_init_10 : decode cX4_init 10 = .ok (.iload_n 2, 1) := by decide +kernel
theorem dX4_init_11 : decode cX4_init 11 = .ok (.putfield 13, 3) := by decide +kernel
theorem dX4_init_14 : decode cX4_init 14 = .ok (.aload_n 0, 1) := by decide +kernel
theorem dX4_init_15 : decode cX4_init 15 = .ok (.iload_n 1, 1) := by decide +kernel
theorem dX4_init_16 : decode cX4_init 16 = .ok (.iload_n 2, 1) := by decide +kernel
theorem dX4_init_17 : decode cX4_init 17 = .ok (.imul, 1) := by decide +kernel
theorem dX4_init_18 : decode cX4_init 18 = .ok (.newarray .long, 2) := by decide +kernel
theorem dX4_init_20 : decode cX4_init 20 = .ok (.putfield 16, 3) := by decide +kernel
theorem dX4_init_23 : decode cX4_init 23 = .ok (.return_, 1) := by decide +kernel
theorem dX4_copyFrom_0 : decode cX4_copyFrom 0 = .ok (.aload_n 1, 1) := by decide +kernel
theorem dX4_copyFrom_1 : decode cX4_copyFrom 1 = .ok (.getfield 16, 3) := by decide +kernel
theorem dX4_copyFrom_4 : decode cX4_copyFrom 4 = .ok (.iconst 0, 1) := by decide +kernel
theorem dX4_copyFrom_5 : decode cX4_copyFrom 5 = .ok (.aload_n 0, 1) := by decide +kernel
theorem dX4_copyFrom_6 : decode cX4_copyFrom 6 = .ok (.getfield 16, 3) := by decide +kernel
theorem dX4_copyFrom_9 : decode cX4_copyFrom 9 = .ok (.iconst 0, 1) := by decide +kernel
theorem dX4_copyFrom_10 : decode cX4_copyFrom 10 = .ok (.aload_n 0, 1) := by decide +kernel
theorem dX4_copyFrom_11 : decode cX4_copyFrom 11 = .ok (.getfield 16, 3) := by decide +kernel
theorem dX4_copyFrom_14 : decode cX4_copyFrom 14 = .ok (.arraylength, 1) := by decide +kernel
theorem dX4_copyFrom_15 : decode cX4_copyFrom 15 = .ok (.invokestatic 20, 3) := by decide +kernel
theorem dX4_copyFrom_18 : decode cX4_copyFrom 18 = .ok (.aload_n 0, 1) := by decide +kernel
theorem dX4_copyFrom_19 : decode cX4_copyFrom 19 = .ok (.aload_n 1, 1) := by decide +kernel
theorem dX4_copyFrom_20 : decode cX4_copyFrom 20 = .ok (.getfield 26, 3) := by decide +kernel
theorem dX4_copyFrom_23 : decode cX4_copyFrom 23 = .ok (.putfield 26, 3) := by decide +kernel
theorem dX4_copyFrom_26 : decode cX4_copyFrom 26 = .ok (.aload_n 0, 1) := by decide +kernel
theorem dX4_copyFrom_27 : decode cX4_copyFrom 27 = .ok (.aload_n 1, 1) := by decide +kernel
theorem dX4_copyFrom_28 : decode cX4_copyFrom 28 = .ok (.getfield 29, 3) := by decide +kernel
theorem dX4_copyFrom_31 : decode cX4_copyFrom 31 = .ok (.putfield 29, 3) := by decide +kernel
theorem dX4_copyFrom_34 : decode cX4_copyFrom 34 = .ok (.return_, 1) := by decide +kernel
theorem dX4_addRow_0 : decode cX4_addRow 0 = .ok (.aload_n 0, 1) := by decide +kernel
theorem dX4_addRow_1 : decode cX4_addRow 1 = .ok (.getfield 29, 3) := by decide +kernel
theorem dX4_addRow_4 : decode cX4_addRow 4 = .ok (.aload_n 0, 1) := by decide +kernel
theorem dX4_addRow_5 : decode cX4_addRow 5 = .ok (.getfield 7, 3) := by decide +kernel
theorem dX4_addRow_8 : decode cX4_addRow 8 = .ok (.if_icmp .ge 16, 3) := by decide +kernel
theorem dX4_addRow_11 : decode cX4_addRow 11 = .ok (.aload_n 0, 1) := by decide +kernel
theorem dX4_addRow_12 : decode cX4_addRow 12 = .ok (.dup, 1) := by decide +kernel
theorem dX4_addRow_13 : decode cX4_addRow 13 = .ok (.getfield 29, 3) := by decide +kernel
theorem dX4_addRow_16 : decode cX4_addRow 16 = .ok (.iconst 1, 1) := by decide +kernel
theorem dX4_addRow_17 : decode cX4_addRow 17 = .ok (.iadd, 1) := by decide +kernel
theorem dX4_addRow_18 : decode cX4_addRow 18 = .ok (.putfield 29, 3) := by decide +kernel
theorem dX4_addRow_21 : decode cX4_addRow 21 = .ok (.goto 30, 3) := by decide +kernel
theorem dX4_addRow_24 : decode cX4_addRow 24 = .ok (.aload_n 0, 1) := by decide +kernel
theorem dX4_addRow_25 : decode cX4_addRow 25 = .ok (.aload_n 0, 1) := by decide +kernel
theorem dX4_addRow_26 : decode cX4_addRow 26 = .ok (.getfield 26, 3) := by decide +kernel
theorem dX4_addRow_29 : decode cX4_addRow 29 = .ok (.iconst 1, 1) := by decide +kernel
theorem dX4_addRow_30 : decode cX4_addRow 30 = .ok (.iadd, 1) := by decide +kernel
theorem dX4_addRow_31 : decode cX4_addRow 31 = .ok (.aload_n 0, 1) := by decide +kernel
theorem dX4_addRow_32 : decode cX4_addRow 32 = .ok (.getfield 7, 3) := by decide +kernel
theorem dX4_addRow_35 : decode cX4_addRow 35 = .ok (.if_icmp .ge 12, 3) := by decide +kernel
theorem dX4_addRow_38 : decode cX4_addRow 38 = .ok (.aload_n 0, 1) := by decide +kernel
theorem dX4_addRow_39 : decode cX4_addRow 39 = .ok (.getfield 26, 3) := by decide +kernel
theorem dX4_addRow_42 : decode cX4_addRow 42 = .ok (.iconst 1, 1) := by decide +kernel
theorem dX4_addRow_43 : decode cX4_addRow 43 = .ok (.iadd, 1) := by decide +kernel
theorem dX4_addRow_44 : decode cX4_addRow 44 = .ok (.goto 4, 3) := by decide +kernel
theorem dX4_addRow_47 : decode cX4_addRow 47 = .ok (.iconst 0, 1) := by decide +kernel
theorem dX4_addRow_48 : decode cX4_addRow 48 = .ok (.putfield 26, 3) := by decide +kernel
theorem dX4_addRow_51 : decode cX4_addRow 51 = .ok (.return_, 1) := by decide +kernel
set_option maxRecDepth 20000 in
theorem ggX4_put_X4_cellOf : GoodIn wsX4_put wsX4_cellOf := goodIn_r _ [7, 8, 9, 10, 11, 12, 13, 14, 15] (by decide +kernel) (by decide +kernel)
set_option maxRecDepth 20000 in
theorem gX4_put_X4_cellOf : GoodIn wsX4_put (wsV RX4 32 RX4 yX4_cellOf wsX4_cellOf) := goodIn_app (goodIn_of _ (by decide +kernel)) ggX4_put_X4_cellOf
theorem dX4_put_0 : decode cX4_put 0 = .ok (.aload_n 0, 1) := by decide +kernel
theorem dX4_put_1 : decode cX4_put 1 = .ok (.aload_n 0, 1) := by decide +kernel
theorem dX4_put_2 : decode cX4_put 2 = .ok (.getfield 29, 3) := by decide +kernel
theorem dX4_put_5 : decode cX4_put 5 = .ok (.iconst 1, 1) := by decide +kernel
theorem dX4_put_6 : decode cX4_put 6 = .ok (.isub, 1) := by decide +kernel
theorem dX4_put_7 : decode cX4_put 7 = .ok (.iload_n 1, 1) := by decide +kernel
theorem dX4_put_8 : decode cX4_put 8 = .ok (.invokevirtual 32, 3) := by decide +kernel
theorem dX4_put_11 : decode cX4_put 11 = .ok (.istore 4, 2) := by decide +kernel
theorem dX4_put_13 : decode cX4_put 13 = .ok (.iload 4, 2) := by decide +kernel
theorem dX4_put_15 : decode cX4_put 15 = .ok (.ifCond .lt 21, 3) := by decide +kernel
theorem dX4_put_18 : decode cX4_put 18 = .ok (.iload 4, 2) := by decide +kernel
theorem dX4_put_20 : decode cX4_put 20 = .ok (.aload_n 0, 1) := by decide +kernel
theorem dX4_put_21 : decode cX4_put 21 = .ok (.getfield 16, 3) := by decide +kernel
theorem dX4_put_24 : decode cX4_put 24 = .ok (.arraylength, 1) := by decide +kernel
theorem dX4_put_25 : decode cX4_put 25 = .ok (.if_icmp .ge 11, 3) := by decide +kernel
theorem dX4_put_28 : decode cX4_put 28 = .ok (.aload_n 0, 1) := by decide +kernel
theorem dX4_put_29 : decode cX4_put 29 = .ok (.getfield 16, 3) := by decide +kernel
theorem dX4_put_32 : decode cX4_put 32 = .ok (.iload 4, 2) := by decide +kernel
theorem dX4_put_34 : decode cX4_put 34 = .ok (.lload_n 2, 1) := by decide +kernel
theorem dX4_put_35 : decode cX4_put 35 = .ok (.lastore, 1) := by decide +kernel
theorem dX4_put_36 : decode cX4_put 36 = .ok (.return_, 1) := by decide +kernel
set_option maxRecDepth 20000 in
theorem ggX4_valueAt_X4_cellOf : GoodIn wsX4_valueAt wsX4_cellOf := goodIn_r _ [6, 7, 8, 9, 10, 11, 12, 13, 14] (by decide +kernel) (by decide +kernel)
set_option maxRecDepth 20000 in
theorem gX4_valueAt_X4_cellOf : GoodIn wsX4_valueAt (wsV RX4 32 RX4 yX4_cellOf wsX4_cellOf) := goodIn_app (goodIn_of _ (by decide +kernel)) ggX4_valueAt_X4_cellOf
theorem dX4_valueAt_0 : decode cX4_valueAt 0 = .ok (.aload_n 0, 1) := by decide +kernel
theorem dX4_valueAt_1 : decode cX4_valueAt 1 = .ok (.iload_n 1, 1) := by decide +kernel
theorem dX4_valueAt_2 : decode cX4_valueAt 2 = .ok (.iload_n 2, 1) := by decide +kernel
theorem dX4_valueAt_3 : decode cX4_valueAt 3 = .ok (.invokevirtual 32, 3) := by decide +kernel
theorem dX4_valueAt_6 : decode cX4_valueAt 6 = .ok (.istore_n 3, 1) := by decide +kernel
theorem dX4_valueAt_7 : decode cX4_valueAt 7 = .ok (.iload_n 3, 1) := by decide +kernel
theorem dX4_valueAt_8 : decode cX4_valueAt 8 = .ok (.ifCond .lt 21, 3) := by decide +kernel
theorem dX4_valueAt_11 : decode cX4_valueAt 11 = .ok (.iload_n 3, 1) := by decide +kernel
theorem dX4_valueAt_12 : decode cX4_valueAt 12 = .ok (.aload_n 0, 1) := by decide +kernel
theorem dX4_valueAt_13 : decode cX4_valueAt 13 = .ok (.getfield 16, 3) := by decide +kernel
theorem dX4_valueAt_16 : decode cX4_valueAt 16 = .ok (.arraylength, 1) := by decide +kernel
theorem dX4_valueAt_17 : decode cX4_valueAt 17 = .ok (.if_icmp .ge 12, 3) := by decide +kernel
theorem dX4_valueAt_20 : decode cX4_valueAt 20 = .ok (.aload_n 0, 1) := by decide +kernel
theorem dX4_valueAt_21 : decode cX4_valueAt 21 = .ok (.getfield 16, 3) := by decide +kernel
theorem dX4_valueAt_24 : decode cX4_valueAt 24 = .ok (.iload_n 3, 1) := by decide +kernel
theorem dX4_valueAt_25 : decode cX4_valueAt 25 = .ok (.laload, 1) := by decide +kernel
theorem dX4_valueAt_26 : decode cX4_valueAt 26 = .ok (.goto 4, 3) := by decide +kernel
theorem dX4_valueAt_29 : decode cX4_valueAt 29 = .ok (.lconst 0, 1) := by decide +kernel
theorem dX4_valueAt_30 : decode cX4_valueAt 30 = .ok (.lreturn, 1) := by decide +kernel
theorem dX4_cellOf_0 : decode cX4_cellOf 0 = .ok (.aload_n 0, 1) := by decide +kernel
theorem dX4_cellOf_1 : decode cX4_cellOf 1 = .ok (.getfield 26, 3) := by decide +kernel
theorem dX4_cellOf_4 : decode cX4_cellOf 4 = .ok (.iload_n 1, 1) := by decide +kernel
theorem dX4_cellOf_5 : decode cX4_cellOf 5 = .ok (.iadd, 1) := by decide +kernel
theorem dX4_cellOf_6 : decode cX4_cellOf 6 = .ok (.istore_n 3, 1) := by decide +kernel
theorem dX4_cellOf_7 : decode cX4_cellOf 7 = .ok (.iload_n 3, 1) := by decide +kernel
theorem dX4_cellOf_8 : decode cX4_cellOf 8 = .ok (.aload_n 0, 1) := by decide +kernel
theorem dX4_cellOf_9 : decode cX4_cellOf 9 = .ok (.getfield 7, 3) := by decide +kernel
theorem dX4_cellOf_12 : decode cX4_cellOf 12 = .ok (.if_icmp .lt 10, 3) := by decide +kernel
theorem dX4_cellOf_15 : decode cX4_cellOf 15 = .ok (.iload_n 3, 1) := by decide +kernel
theorem dX4_cellOf_16 : decode cX4_cellOf 16 = .ok (.aload_n 0, 1) := by decide +kernel
theorem dX4_cellOf_17 : decode cX4_cellOf 17 = .ok (.getfield 7, 3) := by decide +kernel
theorem dX4_cellOf_20 : decode cX4_cellOf 20 = .ok (.isub, 1) := by decide +kernel
theorem dX4_cellOf_21 : decode cX4_cellOf 21 = .ok (.istore_n 3, 1) := by decide +kernel
theorem dX4_cellOf_22 : decode cX4_cellOf 22 = .ok (.iload_n 3, 1) := by decide +kernel
theorem dX4_cellOf_23 : decode cX4_cellOf 23 = .ok (.aload_n 0, 1) := by decide +kernel
theorem dX4_cellOf_24 : decode cX4_cellOf 24 = .ok (.getfield 13, 3) := by decide +kernel
theorem dX4_cellOf_27 : decode cX4_cellOf 27 = .ok (.imul, 1) := by decide +kernel
theorem dX4_cellOf_28 : decode cX4_cellOf 28 = .ok (.iload_n 2, 1) := by decide +kernel
theorem dX4_cellOf_29 : decode cX4_cellOf 29 = .ok (.iadd, 1) := by decide +kernel
theorem dX4_cellOf_30 : decode cX4_cellOf 30 = .ok (.ireturn, 1) := by decide +kernel
set_option maxRecDepth 20000 in
theorem ggX4_hashAfter_X9_hashed : GoodIn wsX4_hashAfter wsX9_hashed := goodIn_r _ [5, 6] (by decide +kernel) (by decide +kernel)
set_option maxRecDepth 20000 in
theorem gX4_hashAfter_X9_hashed_n36 : GoodIn wsX4_hashAfter (wsX9_hashed) := ggX4_hashAfter_X9_hashed
set_option maxRecDepth 20000 in
theorem ggX4_hashAfter_X4_valueAt : GoodIn wsX4_hashAfter wsX4_valueAt := goodIn_r _ [11, 12, 13, 14, 15, 10, 16, 17, 18, 2, 19, 20, 21, 22, 23] (by decide +kernel) (by decide +kernel)
set_option maxRecDepth 20000 in
theorem gX4_hashAfter_X4_valueAt : GoodIn wsX4_hashAfter (wsV RX4 42 RX4 yX4_valueAt wsX4_valueAt) := goodIn_app (goodIn_of _ (by decide +kernel)) ggX4_hashAfter_X4_valueAt
theorem dX4_hashAfter_0 : decode cX4_hashAfter 0 = .ok (.lload_n 1, 1) := by decide +kernel
theorem dX4_hashAfter_1 : decode cX4_hashAfter 1 = .ok (.aload_n 0, 1) := by decide +kernel
theorem dX4_hashAfter_2 : decode cX4_hashAfter 2 = .ok (.getfield 29, 3) := by decide +kernel
theorem dX4_hashAfter_5 : decode cX4_hashAfter 5 = .ok (.i2l, 1) := by decide +kernel
theorem dX4_hashAfter_6 : decode cX4_hashAfter 6 = .ok (.invokestatic 36, 3) := by decide +kernel
theorem dX4_hashAfter_9 : decode cX4_hashAfter 9 = .ok (.lstore_n 3, 1) := by decide +kernel
theorem dX4_hashAfter_10 : decode cX4_hashAfter 10 = .ok (.iconst 0, 1) := by decide +kernel
theorem dX4_hashAfter_11 : decode cX4_hashAfter 11 = .ok (.istore 5, 2) := by decide +kernel
theorem dX4_hashAfter_13 : decode cX4_hashAfter 13 = .ok (.iload 5, 2) := by decide +kernel
theorem dX4_hashAfter_15 : decode cX4_hashAfter 15 = .ok (.aload_n 0, 1) := by decide +kernel
theorem dX4_hashAfter_16 : decode cX4_hashAfter 16 = .ok (.getfield 29, 3) := by decide +kernel
theorem dX4_hashAfter_19 : decode cX4_hashAfter 19 = .ok (.if_icmp .ge 40, 3) := by decide +kernel
theorem dX4_hashAfter_22 : decode cX4_hashAfter 22 = .ok (.iconst 0, 1) := by decide +kernel
theorem dX4_hashAfter_23 : decode cX4_hashAfter 23 = .ok (.istore 6, 2) := by decide +kernel
theorem dX4_hashAfter_25 : decode cX4_hashAfter 25 = .ok (.iload 6, 2) := by decide +kernel
theorem dX4_hashAfter_27 : decode cX4_hashAfter 27 = .ok (.aload_n 0, 1) := by decide +kernel
theorem dX4_hashAfter_28 : decode cX4_hashAfter 28 = .ok (.getfield 13, 3) := by decide +kernel
theorem dX4_hashAfter_31 : decode cX4_hashAfter 31 = .ok (.if_icmp .ge 22, 3) := by decide +kernel
theorem dX4_hashAfter_34 : decode cX4_hashAfter 34 = .ok (.lload_n 3, 1) := by decide +kernel
theorem dX4_hashAfter_35 : decode cX4_hashAfter 35 = .ok (.aload_n 0, 1) := by decide +kernel
theorem dX4_hashAfter_36 : decode cX4_hashAfter 36 = .ok (.iload 5, 2) := by decide +kernel
theorem dX4_hashAfter_38 : decode cX4_hashAfter 38 = .ok (.iload 6, 2) := by decide +kernel
theorem dX4_hashAfter_40 : decode cX4_hashAfter 40 = .ok (.invokevirtual 42, 3) := by decide +kernel
theorem dX4_hashAfter_43 : decode cX4_hashAfter 43 = .ok (.invokestatic 36, 3) := by decide +kernel
theorem dX4_hashAfter_46 : decode cX4_hashAfter 46 = .ok (.lstore_n 3, 1) := by decide +kernel
theorem dX4_hashAfter_47 : decode cX4_hashAfter 47 = .ok (.iinc 6 1, 3) := by decide +kernel
theorem dX4_hashAfter_50 : decode cX4_hashAfter 50 = .ok (.goto (-25), 3) := by decide +kernel
theorem dX4_hashAfter_53 : decode cX4_hashAfter 53 = .ok (.iinc 5 1, 3) := by decide +kernel
theorem dX4_hashAfter_56 : decode cX4_hashAfter 56 = .ok (.goto (-43), 3) := by decide +kernel
theorem dX4_hashAfter_59 : decode cX4_hashAfter 59 = .ok (.lload_n 3, 1) := by decide +kernel
theorem dX4_hashAfter_60 : decode cX4_hashAfter 60 = .ok (.lreturn, 1) := by decide +kernel
set_option maxRecDepth 20000 in
theorem ggX5_init_X7_init : GoodIn wsX5_init wsX7_init := goodIn_r _ [10, 11, 2, 3] (by decide +kernel) (by decide +kernel)
set_option maxRecDepth 20000 in
theorem gX5_init_X7_init_n9 : GoodIn wsX5_init (wsX7_init) := ggX5_init_X7_init
theorem dX5_init_0 : decode cX5_init 0 = .ok (.aload_n 0, 1) := by decide +kernel
theorem dX5_init_1 : decode cX5_init 1 = .ok (.invokespecial 1, 3) := by decide +kernel
theorem dX5_init_4 : decode cX5_init 4 = .ok (.aload_n 0, 1) := by decide +kernel
theorem dX5_init_5 : decode cX5_init 5 = .ok (.new 7, 3) := by decide +kernel
theorem dX5_init_8 : decode cX5_init 8 = .ok (.dup, 1) := by decide +kernel
theorem dX5_init_9 : decode cX5_init 9 = .ok (.invokespecial 9, 3) := by decide +kernel
theorem dX5_init_12 : decode cX5_init 12 = .ok (.putfield 10, 3) := by decide +kernel
theorem dX5_init_15 : decode cX5_init 15 = .ok (.aload_n 0, 1) := by decide +kernel
theorem dX5_init_16 : decode cX5_init 16 = .ok (.new 7, 3) := by decide +kernel
theorem dX5_init_19 : decode cX5_init 19 = .ok (.dup, 1) := by decide +kernel
theorem dX5_init_20 : decode cX5_init 20 = .ok (.invokespecial 9, 3) := by decide +kernel
theorem dX5_init_23 : decode cX5_init 23 = .ok (.putfield 16, 3) := by decide +kernel
theorem dX5_init_26 : decode cX5_init 26 = .ok (.return_, 1) := by decide +kernel
set_option maxRecDepth 20000 in
theorem ggX5_copyFrom_X7_copyFrom : GoodIn wsX5_copyFrom wsX7_copyFrom := goodIn_r _ [9, 10, 11, 12, 13, 18, 19, 20, 21] (by decide +kernel) (by decide +kernel)
set_option maxRecDepth 20000 in
theorem gX5_copyFrom_X7_copyFrom : GoodIn wsX5_copyFrom (wsV RX5 27 RX7 yX7_copyFrom wsX7_copyFrom) := goodIn_app (goodIn_of _ (by decide +kernel)) ggX5_copyFrom_X7_copyFrom
theorem dX5_copyFrom_0 : decode cX5_copyFrom 0 = .ok (.aload_n 0, 1) := by decide +kernel
theorem dX5_copyFrom_1 : decode cX5_copyFrom 1 = .ok (.aload_n 1, 1) := by decide +kernel
theorem dX5_copyFrom_2 : decode cX5_copyFrom 2 = .ok (.getfield 19, 3) := by decide +kernel
theorem dX5_copyFrom_5 : decode cX5_copyFrom 5 = .ok (.putfield 19, 3) := by decide +kernel
theorem dX5_copyFrom_8 : decode cX5_copyFrom 8 = .ok (.aload_n 0, 1) := by decide +kernel
theorem dX5_copyFrom_9 : decode cX5_copyFrom 9 = .ok (.aload_n 1, 1) := by decide +kernel
theorem dX5_copyFrom_10 : decode cX5_copyFrom 10 = .ok (.getfield 23, 3) := by decide +kernel
theorem dX5_copyFrom_13 : decode cX5_copyFrom 13 = .ok (.putfield 23, 3) := by decide +kernel
theorem dX5_copyFrom_16 : decode cX5_copyFrom 16 = .ok (.aload_n 0, 1) := by decide +kernel
theorem dX5_copyFrom_17 : decode cX5_copyFrom 17 = .ok (.getfield 10, 3) := by decide +kernel
theorem dX5_copyFrom_20 : decode cX5_copyFrom 20 = .ok (.aload_n 1, 1) := by decide +kernel
theorem dX5_copyFrom_21 : decode cX5_copyFrom 21 = .ok (.getfield 10, 3) := by decide +kernel
theorem dX5_copyFrom_24 : decode cX5_copyFrom 24 = .ok (.invokevirtual 27, 3) := by decide +kernel
theorem dX5_copyFrom_27 : decode cX5_copyFrom 27 = .ok (.aload_n 0, 1) := by decide +kernel
theorem dX5_copyFrom_28 : decode cX5_copyFrom 28 = .ok (.getfield 16, 3) := by decide +kernel
theorem dX5_copyFrom_31 : decode cX5_copyFrom 31 = .ok (.aload_n 1, 1) := by decide +kernel
theorem dX5_copyFrom_32 : decode cX5_copyFrom 32 = .ok (.getfield 16, 3) := by decide +kernel
theorem dX5_copyFrom_35 : decode cX5_copyFrom 35 = .ok (.invokevirtual 27, 3) := by decide +kernel
theorem dX5_copyFrom_38 : decode cX5_copyFrom 38 = .ok (.return_, 1) := by decide +kernel
set_option maxRecDepth 20000 in
theorem ggX5_clear_X7_clear : GoodIn wsX5_clear wsX7_clear := goodIn_r _ [9, 10, 11, 12, 13, 18, 19, 20, 21] (by decide +kernel) (by decide +kernel)
set_option maxRecDepth 20000 in
theorem gX5_clear_X7_clear : GoodIn wsX5_clear (wsV RX5 31 RX7 yX7_clear wsX7_clear) := goodIn_app (goodIn_of _ (by decide +kernel)) ggX5_clear_X7_clear
theorem dX5_clear_0 : decode cX5_clear 0 = .ok (.aload_n 0, 1) := by decide +kernel
theorem dX5_clear_1 : decode cX5_clear 1 = .ok (.lconst 0, 1) := by decide +kernel
theorem dX5_clear_2 : decode cX5_clear 2 = .ok (.putfield 19, 3) := by decide +kernel
theorem dX5_clear_5 : decode cX5_clear 5 = .ok (.aload_n 0, 1) := by decide +kernel
theorem dX5_clear_6 : decode cX5_clear 6 = .ok (.iconst 0, 1) := by decide +kernel
theorem dX5_clear_7 : decode cX5_clear 7 = .ok (.putfield 23, 3) := by decide +kernel
theorem dX5_clear_10 : decode cX5_clear 10 = .ok (.aload_n 0, 1) := by decide +kernel
theorem dX5_clear_11 : decode cX5_clear 11 = .ok (.getfield 10, 3) := by decide +kernel
theorem dX5_clear_14 : decode cX5_clear 14 = .ok (.invokevirtual 31, 3) := by decide +kernel
theorem dX5_clear_17 : decode cX5_clear 17 = .ok (.aload_n 0, 1) := by decide +kernel
theorem dX5_clear_18 : decode cX5_clear 18 = .ok (.getfield 16, 3) := by decide +kernel
theorem dX5_clear_21 : decode cX5_clear 21 = .ok (.invokevirtual 31, 3) := by decide +kernel
theorem dX5_clear_24 : decode cX5_clear 24 = .ok (.return_, 1) := by decide +kernel
theorem dX5_sumsForMeans_0 : decode cX5_sumsForMeans 0 = .ok (.aload_n 0, 1) := by decide +kernel
theorem dX5_sumsForMeans_1 : decode cX5_sumsForMeans 1 = .ok (.getfield 10, 3) := by decide +kernel
theorem dX5_sumsForMeans_4 : decode cX5_sumsForMeans 4 = .ok (.getfield 34, 3) := by decide +kernel
theorem dX5_sumsForMeans_7 : decode cX5_sumsForMeans 7 = .ok (.ifCond .le 10, 3) := by decide +kernel
theorem dX5_sumsForMeans_10 : decode cX5_sumsForMeans 10 = .ok (.aload_n 0, 1) := by decide +kernel
theorem dX5_sumsForMeans_11 : decode cX5_sumsForMeans 11 = .ok (.getfield 10, 3) := by decide +kernel
theorem dX5_sumsForMeans_14 : decode cX5_sumsForMeans 14 = .ok (.goto 7, 3) := by decide +kernel
theorem dX5_sumsForMeans_17 : decode cX5_sumsForMeans 17 = .ok (.aload_n 0, 1) := by decide +kernel
theorem dX5_sumsForMeans_18 : decode cX5_sumsForMeans 18 = .ok (.getfield 16, 3) := by decide +kernel
theorem dX5_sumsForMeans_21 : decode cX5_sumsForMeans 21 = .ok (.areturn, 1) := by decide +kernel
set_option maxRecDepth 20000 in
theorem ggX6_init_X8_init : GoodIn wsX6_init wsX8_init := goodIn_r _ [40, 41, 2, 3, 42, 43, 44, 45, 84, 85, 86, 87, 88, 89] (by decide +kernel) (by decide +kernel)
set_option maxRecDepth 20000 in
theorem gX6_init_X8_init : GoodIn wsX6_init (wsX8_init) := ggX6_init_X8_init
set_option maxRecDepth 20000 in
theorem ggX6_init_X3_init : GoodIn wsX6_init wsX3_init := goodIn_r _ [47, 48, 2, 3, 49, 50, 51, 52, 53, 110, 111, 112, 113] (by decide +kernel) (by decide +kernel)
set_option maxRecDepth 20000 in
theorem gX6_init_X3_init_n35 : GoodIn wsX6_init (wsX3_init) := ggX6_init_X3_init
set_option maxRecDepth 20000 in
theorem ggX6_init_X1_init : GoodIn wsX6_init wsX1_init := goodIn_r _ [55, 56, 2, 3, 57, 114, 115, 116] (by decide +kernel) (by decide +kernel)
set_option maxRecDepth 20000 in
theorem gX6_init_X1_init_n42 : GoodIn wsX6_init (wsX1_init) := ggX6_init_X1_init
set_option maxRecDepth 20000 in
theorem ggX6_init_X0_init : GoodIn wsX6_init wsX0_init := goodIn_r _ [59, 60, 2, 3, 61, 117, 118, 119, 120, 121, 122] (by decide +kernel) (by decide +kernel)
set_option maxRecDepth 20000 in
theorem gX6_init_X0_init_n49 : GoodIn wsX6_init (wsX0_init) := ggX6_init_X0_init
set_option maxRecDepth 20000 in
theorem ggX6_init_X5_init : GoodIn wsX6_init wsX5_init := goodIn_r _ [63, 64, 2, 3, 65, 66, 67, 68, 69, 70, 71, 72, 135, 136, 137, 138, 123, 124, 125, 126] (by decide +kernel) (by decide +kernel)
set_option maxRecDepth 20000 in
theorem gX6_init_X5_init_n56 : GoodIn wsX6_init (wsX5_init) := ggX6_init_X5_init
set_option maxRecDepth 20000 in
theorem ggX6_init_X2_init : GoodIn wsX6_init wsX2_init := goodIn_r _ [74, 75, 2, 3] (by decide +kernel) (by decide +kernel)
set_option maxRecDepth 20000 in
theorem gX6_init_X2_init_n63 : GoodIn wsX6_init (wsX2_init) := ggX6_init_X2_init
set_option maxRecDepth 20000 in
theorem ggX6_init_X4_init : GoodIn wsX6_init wsX4_init := goodIn_r _ [78, 79, 2, 3, 80, 81, 82, 83, 130, 131, 132, 133, 134] (by decide +kernel) (by decide +kernel)
set_option maxRecDepth 20000 in
theorem gX6_init_X4_init : GoodIn wsX6_init (wsX4_init) := ggX6_init_X4_init
theorem dX6_init_0 : decode cX6_init 0 = .ok (.aload_n 0, 1) := by decide +kernel
theorem dX6_init_1 : decode cX6_init 1 = .ok (.invokespecial 3, 3) := by decide +kernel
theorem dX6_init_4 : decode cX6_init 4 = .ok (.aload_n 0, 1) := by decide +kernel
theorem dX6_init_5 : decode cX6_init 5 = .ok (.new 9, 3) := by decide +kernel
theorem dX6_init_8 : decode cX6_init 8 = .ok (.dup, 1) := by decide +kernel
theorem dX6_init_9 : decode cX6_init 9 = .ok (.sipush 2500, 3) := by decide +kernel
theorem dX6_init_12 : decode cX6_init 12 = .ok (.iconst 0, 1) := by decide +kernel
theorem dX6_init_13 : decode cX6_init 13 = .ok (.invokespecial 11, 3) := by decide +kernel
theorem dX6_init_16 : decode cX6_init 16 = .ok (.putfield 14, 3) := by decide +kernel
theorem dX6_init_19 : decode cX6_init 19 = .ok (.aload_n 0, 1) := by decide +kernel
theorem dX6_init_20 : decode cX6_init 20 = .ok (.new 9, 3) := by decide +kernel
theorem dX6_init_23 : decode cX6_init 23 = .ok (.dup, 1) := by decide +kernel
theorem dX6_init_24 : decode cX6_init 24 = .ok (.sipush 25000, 3) := by decide +kernel
theorem dX6_init_27 : decode cX6_init 27 = .ok (.iconst 0, 1) := by decide +kernel
theorem dX6_init_28 : decode cX6_init 28 = .ok (.invokespecial 11, 3) := by decide +kernel
theorem dX6_init_31 : decode cX6_init 31 = .ok (.putfield 20, 3) := by decide +kernel
theorem dX6_init_34 : decode cX6_init 34 = .ok (.aload_n 0, 1) := by decide +kernel
theorem dX6_init_35 : decode cX6_init 35 = .ok (.new 9, 3) := by decide +kernel
theorem dX6_init_38 : decode cX6_init 38 = .ok (.dup, 1) := by decide +kernel
theorem dX6_init_39 : decode cX6_init 39 = .ok (.sipush 10000, 3) := by decide +kernel
theorem dX6_init_42 : decode cX6_init 42 = .ok (.iconst 0, 1) := by decide +kernel
theorem dX6_init_43 : decode cX6_init 43 = .ok (.invokespecial 11, 3) := by decide +kernel
theorem dX6_init_46 : decode cX6_init 46 = .ok (.putfield 23, 3) := by decide +kernel
theorem dX6_init_49 : decode cX6_init 49 = .ok (.aload_n 0, 1) := by decide +kernel
theorem dX6_init_50 : decode cX6_init 50 = .ok (.new 9, 3) := by decide +kernel
theorem dX6_init_53 : decode cX6_init 53 = .ok (.dup, 1) := by decide +kernel
theorem dX6_init_54 : decode cX6_init 54 = .ok (.sipush 2000, 3) := by decide +kernel
theorem dX6_init_57 : decode cX6_init 57 = .ok (.sipush (-500), 3) := by decide +kernel
theorem dX6_init_60 : decode cX6_init 60 = .ok (.invokespecial 11, 3) := by decide +kernel
theorem dX6_init_63 : decode cX6_init 63 = .ok (.putfield 26, 3) := by decide +kernel
theorem dX6_init_66 : decode cX6_init 66 = .ok (.aload_n 0, 1) := by decide +kernel
theorem dX6_init_67 : decode cX6_init 67 = .ok (.iconst 0, 1) := by decide +kernel
theorem dX6_init_68 : decode cX6_init 68 = .ok (.putfield 29, 3) := by decide +kernel
theorem dX6_init_71 : decode cX6_init 71 = .ok (.aload_n 0, 1) := by decide +kernel
theorem dX6_init_72 : decode cX6_init 72 = .ok (.new 33, 3) := by decide +kernel
theorem dX6_init_75 : decode cX6_init 75 = .ok (.dup, 1) := by decide +kernel
theorem dX6_init_76 : decode cX6_init 76 = .ok (.invokespecial 35, 3) := by decide +kernel
theorem dX6_init_79 : decode cX6_init 79 = .ok (.putfield 36, 3) := by decide +kernel
theorem dX6_init_82 : decode cX6_init 82 = .ok (.aload_n 0, 1) := by decide +kernel
theorem dX6_init_83 : decode cX6_init 83 = .ok (.new 40, 3) := by decide +kernel
theorem dX6_init_86 : decode cX6_init 86 = .ok (.dup, 1) := by decide +kernel
theorem dX6_init_87 : decode cX6_init 87 = .ok (.invokespecial 42, 3) := by decide +kernel
theorem dX6_init_90 : decode cX6_init 90 = .ok (.putfield 43, 3) := by decide +kernel
theorem dX6_init_93 : decode cX6_init 93 = .ok (.aload_n 0, 1) := by decide +kernel
theorem dX6_init_94 : decode cX6_init 94 = .ok (.new 47, 3) := by decide +kernel
theorem dX6_init_97 : decode cX6_init 97 = .ok (.dup, 1) := by decide +kernel
theorem dX6_init_98 : decode cX6_init 98 = .ok (.invokespecial 49, 3) := by decide +kernel
theorem dX6_init_101 : decode cX6_init 101 = .ok (.putfield 50, 3) := by decide +kernel
theorem dX6_init_104 : decode cX6_init 104 = .ok (.aload_n 0, 1) := by decide +kernel
theorem dX6_init_105 : decode cX6_init 105 = .ok (.new 54, 3) := by decide +kernel
theorem dX6_init_108 : decode cX6_init 108 = .ok (.dup, 1) := by decide +kernel
theorem dX6_init_109 : decode cX6_init 109 = .ok (.invokespecial 56, 3) := by decide +kernel
theorem dX6_init_112 : decode cX6_init 112 = .ok (.putfield 57, 3) := by decide +kernel
theorem dX6_init_115 : decode cX6_init 115 = .ok (.aload_n 0, 1) := by decide +kernel
theorem dX6_init_116 : decode cX6_init 116 = .ok (.new 61, 3) := by decide +kernel
theorem dX6_init_119 : decode cX6_init 119 = .ok (.dup, 1) := by decide +kernel
theorem dX6_init_120 : decode cX6_init 120 = .ok (.invokespecial 63, 3) := by decide +kernel
theorem dX6_init_123 : decode cX6_init 123 = .ok (.putfield 64, 3) := by decide +kernel
theorem dX6_init_126 : decode cX6_init 126 = .ok (.aload_n 0, 1) := by decide +kernel
theorem dX6_init_127 : decode cX6_init 127 = .ok (.new 68, 3) := by decide +kernel
theorem dX6_init_130 : decode cX6_init 130 = .ok (.dup, 1) := by decide +kernel
theorem dX6_init_131 : decode cX6_init 131 = .ok (.bipush 24, 2) := by decide +kernel
theorem dX6_init_133 : decode cX6_init 133 = .ok (.bipush 7, 2) := by decide +kernel
theorem dX6_init_135 : decode cX6_init 135 = .ok (.invokespecial 70, 3) := by decide +kernel
theorem dX6_init_138 : decode cX6_init 138 = .ok (.putfield 71, 3) := by decide +kernel
theorem dX6_init_141 : decode cX6_init 141 = .ok (.aload_n 0, 1) := by decide +kernel
theorem dX6_init_142 : decode cX6_init 142 = .ok (.new 68, 3) := by decide +kernel
theorem dX6_init_145 : decode cX6_init 145 = .ok (.dup, 1) := by decide +kernel
theorem dX6_init_146 : decode cX6_init 146 = .ok (.iconst 5, 1) := by decide +kernel
theorem dX6_init_147 : decode cX6_init 147 = .ok (.iconst 4, 1) := by decide +kernel
theorem dX6_init_148 : decode cX6_init 148 = .ok (.invokespecial 70, 3) := by decide +kernel
theorem dX6_init_151 : decode cX6_init 151 = .ok (.putfield 75, 3) := by decide +kernel
theorem dX6_init_154 : decode cX6_init 154 = .ok (.aload_n 0, 1) := by decide +kernel
theorem dX6_init_155 : decode cX6_init 155 = .ok (.new 68, 3) := by decide +kernel
theorem dX6_init_158 : decode cX6_init 158 = .ok (.dup, 1) := by decide +kernel
theorem dX6_init_159 : decode cX6_init 159 = .ok (.bipush 30, 2) := by decide +kernel
theorem dX6_init_161 : decode cX6_init 161 = .ok (.iconst 3, 1) := by decide +kernel
theorem dX6_init_162 : decode cX6_init 162 = .ok (.invokespecial 70, 3) := by decide +kernel
theorem dX6_init_165 : decode cX6_init 165 = .ok (.putfield 78, 3) := by decide +kernel
theorem dX6_init_168 : decode cX6_init 168 = .ok (.return_, 1) := by decide +kernel
set_option maxRecDepth 20000 in
theorem ggX6_copyFrom_X8_copyFrom : GoodIn wsX6_copyFrom wsX8_copyFrom := goodIn_r _ [25, 26, 27, 28, 29, 30, 118, 119, 120, 121, 122, 123] (by decide +kernel) (by decide +kernel)
set_option maxRecDepth 20000 in
theorem gX6_copyFrom_X8_copyFrom : GoodIn wsX6_copyFrom (wsV RX6 87 RX8 yX8_copyFrom wsX8_copyFrom) := goodIn_app (goodIn_of _ (by decide +kernel)) ggX6_copyFrom_X8_copyFrom
set_option maxRecDepth 20000 in
theorem ggX6_copyFrom_X3_copyFrom : GoodIn wsX6_copyFrom wsX3_copyFrom := goodIn_r _ [35, 36, 37, 38, 39, 40, 41, 42, 43, 124, 125, 126, 127] (by decide +kernel) (by decide +kernel)
set_option maxRecDepth 20000 in
theorem gX6_copyFrom_X3_copyFrom : GoodIn wsX6_copyFrom (wsV RX6 97 RX3 yX3_copyFrom wsX3_copyFrom) := goodIn_app (goodIn_of _ (by decide +kernel)) ggX6_copyFrom_X3_copyFrom
set_option maxRecDepth 20000 in
theorem ggX6_copyFrom_X1_copyFrom : GoodIn wsX6_copyFrom wsX1_copyFrom := goodIn_r _ [48, 49, 50, 51, 128, 129, 130] (by decide +kernel) (by decide +kernel)
set_option maxRecDepth 20000 in
theorem gX6_copyFrom_X1_copyFrom : GoodIn wsX6_copyFrom (wsV RX6 100 RX1 yX1_copyFrom wsX1_copyFrom) := goodIn_app (goodIn_of _ (by decide +kernel)) ggX6_copyFrom_X1_copyFrom
set_option maxRecDepth 20000 in
theorem ggX6_copyFrom_X0_copyFrom : GoodIn wsX6_copyFrom wsX0_copyFrom := goodIn_r _ [56, 57, 58, 59, 60, 61, 62, 131, 132, 133, 134, 135, 136] (by decide +kernel) (by decide +kernel)
set_option maxRecDepth 20000 in
theorem gX6_copyFrom_X0_copyFrom : GoodIn wsX6_copyFrom (wsV RX6 113 RX0 yX0_copyFrom wsX0_copyFrom) := goodIn_app (goodIn_of _ (by decide +kernel)) ggX6_copyFrom_X0_copyFrom
set_option maxRecDepth 20000 in
theorem ggX6_copyFrom_X5_copyFrom : GoodIn wsX6_copyFrom wsX5_copyFrom := goodIn_r _ [67, 68, 69, 70, 71, 72, 73, 74, 75, 76, 77, 78, 79, 80, 137, 138, 139, 140, 141, 142, 143, 144] (by decide +kernel) (by decide +kernel)
set_option maxRecDepth 20000 in
theorem gX6_copyFrom_X5_copyFrom : GoodIn wsX6_copyFrom (wsV RX6 116 RX5 yX5_copyFrom wsX5_copyFrom) := goodIn_app (goodIn_of _ (by decide +kernel)) ggX6_copyFrom_X5_copyFrom
set_option maxRecDepth 20000 in
theorem ggX6_copyFrom_X2_copyFrom : GoodIn wsX6_copyFrom wsX2_copyFrom := goodIn_r _ [85, 86, 87, 88, 145, 146, 147] (by decide +kernel) (by decide +kernel)
set_option maxRecDepth 20000 in
theorem gX6_copyFrom_X2_copyFrom : GoodIn wsX6_copyFrom (wsV RX6 119 RX2 yX2_copyFrom wsX2_copyFrom) := goodIn_app (goodIn_of _ (by decide +kernel)) ggX6_copyFrom_X2_copyFrom
set_option maxRecDepth 20000 in
theorem ggX6_copyFrom_X4_copyFrom : GoodIn wsX6_copyFrom wsX4_copyFrom := goodIn_r _ [93, 94, 95, 40, 41, 42, 96, 97, 148, 149, 150, 151, 152] (by decide +kernel) (by decide +kernel)
set_option maxRecDepth 20000 in
theorem gX6_copyFrom_X4_copyFrom : GoodIn wsX6_copyFrom (wsV RX6 122 RX4 yX4_copyFrom wsX4_copyFrom) := goodIn_app (goodIn_of _ (by decide +kernel)) ggX6_copyFrom_X4_copyFrom
theorem dX6_copyFrom_0 : decode cX6_copyFrom 0 = .ok (.aload_n 0, 1) := by decide +kernel
theorem dX6_copyFrom_1 : decode cX6_copyFrom 1 = .ok (.aload_n 1, 1) := by decide +kernel
theorem dX6_copyFrom_2 : decode cX6_copyFrom 2 = .ok (.getfield 81, 3) := by decide +kernel
theorem dX6_copyFrom_5 : decode cX6_copyFrom 5 = .ok (.putfield 81, 3) := by decide +kernel
theorem dX6_copyFrom_8 : decode cX6_copyFrom 8 = .ok (.aload_n 0, 1) := by decide +kernel
theorem dX6_copyFrom_9 : decode cX6_copyFrom 9 = .ok (.aload_n 1, 1) := by decide +kernel
theorem dX6_copyFrom_10 : decode cX6_copyFrom 10 = .ok (.getfield 84, 3) := by decide +kernel
theorem dX6_copyFrom_13 : decode cX6_copyFrom 13 = .ok (.putfield 84, 3) := by decide +kernel
theorem dX6_copyFrom_16 : decode cX6_copyFrom 16 = .ok (.aload_n 0, 1) := by decide +kernel
theorem dX6_copyFrom_17 : decode cX6_copyFrom 17 = .ok (.getfield 14, 3) := by decide +kernel
theorem dX6_copyFrom_20 : decode cX6_copyFrom 20 = .ok (.aload_n 1, 1) := by decide +kernel
theorem dX6_copyFrom_21 : decode cX6_copyFrom 21 = .ok (.getfield 14, 3) := by decide +kernel
theorem dX6_copyFrom_24 : decode cX6_copyFrom 24 = .ok (.invokevirtual 87, 3) := by decide +kernel
theorem dX6_copyFrom_27 : decode cX6_copyFrom 27 = .ok (.aload_n 0, 1) := by decide +kernel
theorem dX6_copyFrom_28 : decode cX6_copyFrom 28 = .ok (.getfield 20, 3) := by decide +kernel
theorem dX6_copyFrom_31 : decode cX6_copyFrom 31 = .ok (.aload_n 1, 1) := by decide +kernel
theorem dX6_copyFrom_32 : decode cX6_copyFrom 32 = .ok (.getfield 20, 3) := by decide +kernel
theorem dX6_copyFrom_35 : decode cX6_copyFrom 35 = .ok (.invokevirtual 87, 3) := by decide +kernel
theorem dX6_copyFrom_38 : decode cX6_copyFrom 38 = .ok (.aload_n 0, 1) := by decide +kernel
theorem dX6_copyFrom_39 : decode cX6_copyFrom 39 = .ok (.getfield 23, 3) := by decide +kernel
theorem dX6_copyFrom_42 : decode cX6_copyFrom 42 = .ok (.aload_n 1, 1) := by decide +kernel
theorem dX6_copyFrom_43 : decode cX6_copyFrom 43 = .ok (.getfield 23, 3) := by decide +kernel
theorem dX6_copyFrom_46 : decode cX6_copyFrom 46 = .ok (.invokevirtual 87, 3) := by decide +kernel
theorem dX6_copyFrom_49 : decode cX6_copyFrom 49 = .ok (.aload_n 0, 1) := by decide +kernel
theorem dX6_copyFrom_50 : decode cX6_copyFrom 50 = .ok (.getfield 26, 3) := by decide +kernel
theorem dX6_copyFrom_53 : decode cX6_copyFrom 53 = .ok (.aload_n 1, 1) := by decide +kernel
theorem dX6_copyFrom_54 : decode cX6_copyFrom 54 = .ok (.getfield 26, 3) := by decide +kernel

theorem dX10_closeBatch_0 : decode cX10_closeBatch 0 = .ok (.aload_n 0, 1) := by decide +kernel
theorem dX10_closeBatch_1 : decode cX10_closeBatch 1 = .ok (.getfield 7, 3) := by decide +kernel
theorem dX10_closeBatch_4 : decode cX10_closeBatch 4 = .ok (.bipush 45, 2) := by decide +kernel
theorem dX10_closeBatch_6 : decode cX10_closeBatch 6 = .ok (.laload, 1) := by decide +kernel
theorem dX10_closeBatch_7 : decode cX10_closeBatch 7 = .ok (.lconst 0, 1) := by decide +kernel
theorem dX10_closeBatch_8 : decode cX10_closeBatch 8 = .ok (.lcmp, 1) := by decide +kernel
theorem dX10_closeBatch_9 : decode cX10_closeBatch 9 = .ok (.ifCond .ne 10, 3) := by decide +kernel
theorem dX10_closeBatch_12 : decode cX10_closeBatch 12 = .ok (.aload_n 0, 1) := by decide +kernel
theorem dX10_closeBatch_13 : decode cX10_closeBatch 13 = .ok (.iconst 1, 1) := by decide +kernel
theorem dX10_closeBatch_14 : decode cX10_closeBatch 14 = .ok (.invokevirtual 58, 3) := by decide +kernel
theorem dX10_closeBatch_17 : decode cX10_closeBatch 17 = .ok (.i2l, 1) := by decide +kernel
theorem dX10_closeBatch_18 : decode cX10_closeBatch 18 = .ok (.lreturn, 1) := by decide +kernel
theorem dX10_closeBatch_19 : decode cX10_closeBatch 19 = .ok (.aload_n 0, 1) := by decide +kernel
theorem dX10_closeBatch_20 : decode cX10_closeBatch 20 = .ok (.invokevirtual 41, 3) := by decide +kernel
theorem dX10_closeBatch_23 : decode cX10_closeBatch 23 = .ok (.aload_n 0, 1) := by decide +kernel
theorem dX10_closeBatch_24 : decode cX10_closeBatch 24 = .ok (.getfield 7, 3) := by decide +kernel
theorem dX10_closeBatch_27 : decode cX10_closeBatch 27 = .ok (.bipush 45, 2) := by decide +kernel
theorem dX10_closeBatch_29 : decode cX10_closeBatch 29 = .ok (.lconst 0, 1) := by decide +kernel
theorem dX10_closeBatch_30 : decode cX10_closeBatch 30 = .ok (.lastore, 1) := by decide +kernel
theorem dX10_closeBatch_31 : decode cX10_closeBatch 31 = .ok (.aload_n 0, 1) := by decide +kernel
theorem dX10_closeBatch_32 : decode cX10_closeBatch 32 = .ok (.getfield 7, 3) := by decide +kernel
theorem dX10_closeBatch_35 : decode cX10_closeBatch 35 = .ok (.bipush 49, 2) := by decide +kernel
theorem dX10_closeBatch_37 : decode cX10_closeBatch 37 = .ok (.lconst 0, 1) := by decide +kernel
theorem dX10_closeBatch_38 : decode cX10_closeBatch 38 = .ok (.lastore, 1) := by decide +kernel
theorem dX10_closeBatch_39 : decode cX10_closeBatch 39 = .ok (.aload_n 0, 1) := by decide +kernel
theorem dX10_closeBatch_40 : decode cX10_closeBatch 40 = .ok (.getfield 7, 3) := by decide +kernel
theorem dX10_closeBatch_43 : decode cX10_closeBatch 43 = .ok (.bipush 44, 2) := by decide +kernel
theorem dX10_closeBatch_45 : decode cX10_closeBatch 45 = .ok (.laload, 1) := by decide +kernel
theorem dX10_closeBatch_46 : decode cX10_closeBatch 46 = .ok (.lreturn, 1) := by decide +kernel
set_option maxRecDepth 20000 in
theorem ggX10_transmitter_X10_isTransmitter : GoodIn wsX10_transmitter wsX10_isTransmitter := goodIn_r _ [6, 1, 7, 8, 5, 9] (by decide +kernel) (by decide +kernel)
set_option maxRecDepth 20000 in
theorem gX10_transmitter_X10_isTransmitter : GoodIn wsX10_transmitter (va_wsS RX10 54 yX10_isTransmitter wsX10_isTransmitter) := goodIn_app (goodIn_of _ (by decide +kernel)) ggX10_transmitter_X10_isTransmitter
set_option maxRecDepth 20000 in
theorem ggX10_transmitter_X10_fails : GoodIn wsX10_transmitter wsX10_fails := goodIn_r _ [13, 14, 34, 35, 36, 37, 38] (by decide +kernel) (by decide +kernel)
set_option maxRecDepth 20000 in
theorem gX10_transmitter_X10_fails : GoodIn wsX10_transmitter (wsV RX10 58 RX10 yX10_fails wsX10_fails) := goodIn_app (goodIn_of _ (by decide +kernel)) ggX10_transmitter_X10_fails
set_option maxRecDepth 20000 in
theorem ggX10_transmitter_X10_in : GoodIn wsX10_transmitter wsX10_in := goodIn_r _ [9] (by decide +kernel) (by decide +kernel)
set_option maxRecDepth 20000 in
theorem gX10_transmitter_X10_in : GoodIn wsX10_transmitter (va_wsS RX10 50 yX10_in wsX10_in) := goodIn_app (goodIn_of _ (by decide +kernel)) ggX10_transmitter_X10_in
set_option maxRecDepth 20000 in
theorem ggX10_transmitter_X10_readingOf : GoodIn wsX10_transmitter wsX10_readingOf := goodIn_r _ [18, 19, 2, 20, 21, 22, 23, 5, 24, 34, 35, 36, 37, 38] (by decide +kernel) (by decide +kernel)
set_option maxRecDepth 20000 in
theorem gX10_transmitter_X10_readingOf : GoodIn wsX10_transmitter (wsV RX10 88 RX10 yX10_readingOf wsX10_readingOf) := goodIn_app (goodIn_of _ (by decide +kernel)) ggX10_transmitter_X10_readingOf
set_option maxRecDepth 20000 in
theorem ggX10_transmitter_X10_isFaulty : GoodIn wsX10_transmitter wsX10_isFaulty := goodIn_r _ [28, 2, 29, 34, 35, 36, 37, 38] (by decide +kernel) (by decide +kernel)
set_option maxRecDepth 20000 in
theorem gX10_transmitter_X10_isFaulty : GoodIn wsX10_transmitter (wsV RX10 135 RX10 yX10_isFaulty wsX10_isFaulty) := goodIn_app (goodIn_of _ (by decide +kernel)) ggX10_transmitter_X10_isFaulty
set_option maxRecDepth 20000 in
theorem ggX10_transmitter_X10_tells : GoodIn wsX10_transmitter wsX10_tells := goodIn_r _ [33, 14, 34, 35, 36, 37, 38] (by decide +kernel) (by decide +kernel)
set_option maxRecDepth 20000 in
theorem gX10_transmitter_X10_tells : GoodIn wsX10_transmitter (wsV RX10 183 RX10 yX10_tells wsX10_tells) := goodIn_app (goodIn_of _ (by decide +kernel)) ggX10_transmitter_X10_tells
theorem dX10_transmitter_0 : decode cX10_transmitter 0 = .ok (.iload_n 1, 1) := by decide +kernel
theorem dX10_transmitter_1 : decode cX10_transmitter 1 = .ok (.invokestatic 54, 3) := by decide +kernel
theorem dX10_transmitter_4 : decode cX10_transmitter 4 = .ok (.ifCond .ne 9, 3) := by decide +kernel
theorem dX10_transmitter_7 : decode cX10_transmitter 7 = .ok (.aload_n 0, 1) := by decide +kernel
theorem dX10_transmitter_8 : decode cX10_transmitter 8 = .ok (.iconst 1, 1) := by decide +kernel
theorem dX10_transmitter_9 : decode cX10_transmitter 9 = .ok (.invokevirtual 58, 3) := by decide +kernel
theorem dX10_transmitter_12 : decode cX10_transmitter 12 = .ok (.ireturn, 1) := by decide +kernel
theorem dX10_transmitter_13 : decode cX10_transmitter 13 = .ok (.iload_n 2, 1) := by decide +kernel
theorem dX10_transmitter_14 : decode cX10_transmitter 14 = .ok (.i2l, 1) := by decide +kernel
theorem dX10_transmitter_15 : decode cX10_transmitter 15 = .ok (.lconst 0, 1) := by decide +kernel
theorem dX10_transmitter_16 : decode cX10_transmitter 16 = .ok (.ldc2_w 48, 3) := by decide +kernel
theorem dX10_transmitter_19 : decode cX10_transmitter 19 = .ok (.invokestatic 50, 3) := by decide +kernel
theorem dX10_transmitter_22 : decode cX10_transmitter 22 = .ok (.ifCond .ne 9, 3) := by decide +kernel
theorem dX10_transmitter_25 : decode cX10_transmitter 25 = .ok (.aload_n 0, 1) := by decide +kernel
theorem dX10_transmitter_26 : decode cX10_transmitter 26 = .ok (.iconst 2, 1) := by decide +kernel
theorem dX10_transmitter_27 : decode cX10_transmitter 27 = .ok (.invokevirtual 58, 3) := by decide +kernel
theorem dX10_transmitter_30 : decode cX10_transmitter 30 = .ok (.ireturn, 1) := by decide +kernel
theorem dX10_transmitter_31 : decode cX10_transmitter 31 = .ok (.aload_n 0, 1) := by decide +kernel
theorem dX10_transmitter_32 : decode cX10_transmitter 32 = .ok (.iload_n 2, 1) := by decide +kernel
theorem dX10_transmitter_33 : decode cX10_transmitter 33 = .ok (.ifCond .ne 11, 3) := by decide +kernel
theorem dX10_transmitter_36 : decode cX10_transmitter 36 = .ok (.aload_n 0, 1) := by decide +kernel
theorem dX10_transmitter_37 : decode cX10_transmitter 37 = .ok (.iload_n 1, 1) := by decide +kernel
theorem dX10_transmitter_38 : decode cX10_transmitter 38 = .ok (.invokevirtual 88, 3) := by decide +kernel
theorem dX10_transmitter_41 : decode cX10_transmitter 41 = .ok (.goto 50, 3) := by decide +kernel
theorem dX10_transmitter_44 : decode cX10_transmitter 44 = .ok (.iload_n 2, 1) := by decide +kernel
theorem dX10_transmitter_45 : decode cX10_transmitter 45 = .ok (.iconst 1, 1) := by decide +kernel
theorem dX10_transmitter_46 : decode cX10_transmitter 46 = .ok (.if_icmp .ne 15, 3) := by decide +kernel
theorem dX10_transmitter_49 : decode cX10_transmitter 49 = .ok (.aload_n 0, 1) := by decide +kernel
theorem dX10_transmitter_50 : decode cX10_transmitter 50 = .ok (.getfield 7, 3) := by decide +kernel
theorem dX10_transmitter_53 : decode cX10_transmitter 53 = .ok (.bipush 18, 2) := by decide +kernel
theorem dX10_transmitter_55 : decode cX10_transmitter 55 = .ok (.iload_n 1, 1) := by decide +kernel
theorem dX10_transmitter_56 : decode cX10_transmitter 56 = .ok (.iadd, 1) := by decide +kernel
theorem dX10_transmitter_57 : decode cX10_transmitter 57 = .ok (.laload, 1) := by decide +kernel
theorem dX10_transmitter_58 : decode cX10_transmitter 58 = .ok (.goto 33, 3) := by decide +kernel
theorem dX10_transmitter_61 : decode cX10_transmitter 61 = .ok (.iload_n 2, 1) := by decide +kernel
theorem dX10_transmitter_62 : decode cX10_transmitter 62 = .ok (.iconst 2, 1) := by decide +kernel
theorem dX10_transmitter_63 : decode cX10_transmitter 63 = .ok (.if_icmp .ne 19, 3) := by decide +kernel
theorem dX10_transmitter_66 : decode cX10_transmitter 66 = .ok (.aload_n 0, 1) := by decide +kernel
theorem dX10_transmitter_67 : decode cX10_transmitter 67 = .ok (.iload_n 1, 1) := by decide +kernel
theorem dX10_transmitter_68 : decode cX10_transmitter 68 = .ok (.invokevirtual 135, 3) := by decide +kernel
theorem dX10_transmitter_71 : decode cX10_transmitter 71 = .ok (.ifCond .eq 7, 3) := by decide +kernel
theorem dX10_transmitter_74 : decode cX10_transmitter 74 = .ok (.lconst 1, 1) := by decide +kernel
theorem dX10_transmitter_75 : decode cX10_transmitter 75 = .ok (.goto 16, 3) := by decide +kernel
theorem dX10_transmitter_78 : decode cX10_transmitter 78 = .ok (.lconst 0, 1) := by decide +kernel
theorem dX10_transmitter_79 : decode cX10_transmitter 79 = .ok (.goto 12, 3) := by decide +kernel
theorem dX10_transmitter_82 : decode cX10_transmitter 82 = .ok (.aload_n 0, 1) := by decide +kernel
theorem dX10_transmitter_83 : decode cX10_transmitter 83 = .ok (.getfield 7, 3) := by decide +kernel
theorem dX10_transmitter_86 : decode cX10_transmitter 86 = .ok (.bipush 14, 2) := by decide +kernel
theorem dX10_transmitter_88 : decode cX10_transmitter 88 = .ok (.iload_n 1, 1) := by decide +kernel
theorem dX10_transmitter_89 : decode cX10_transmitter 89 = .ok (.iadd, 1) := by decide +kernel
theorem dX10_transmitter_90 : decode cX10_transmitter 90 = .ok (.laload, 1) := by decide +kernel
theorem dX10_transmitter_91 : decode cX10_transmitter 91 = .ok (.invokevirtual 183, 3) := by decide +kernel
theorem dX10_transmitter_94 : decode cX10_transmitter 94 = .ok (.ireturn, 1) := by decide +kernel
set_option maxRecDepth 20000 in
theorem ggX10_range_X10_tells : GoodIn wsX10_range wsX10_tells := goodIn_r _ [6, 7, 8, 9, 10, 11, 12] (by decide +kernel) (by decide +kernel)
set_option maxRecDepth 20000 in
theorem gX10_range_X10_tells : GoodIn wsX10_range (wsV RX10 183 RX10 yX10_tells wsX10_tells) := goodIn_app (goodIn_of _ (by decide +kernel)) ggX10_range_X10_tells
theorem dX10_range_0 : decode cX10_range 0 = .ok (.aload_n 0, 1) := by decide +kernel
theorem dX10_range_1 : decode cX10_range 1 = .ok (.aload_n 0, 1) := by decide +kernel
theorem dX10_range_2 : decode cX10_range 2 = .ok (.getfield 7, 3) := by decide +kernel
theorem dX10_range_5 : decode cX10_range 5 = .ok (.bipush 37, 2) := by decide +kernel
theorem dX10_range_7 : decode cX10_range 7 = .ok (.laload, 1) := by decide +kernel
theorem dX10_range_8 : decode cX10_range 8 = .ok (.invokevirtual 183, 3) := by decide +kernel
theorem dX10_range_11 : decode cX10_range 11 = .ok (.ireturn, 1) := by decide +kernel
set_option maxRecDepth 20000 in
theorem ggX10_differential_X10_tells : GoodIn wsX10_differential wsX10_tells := goodIn_r _ [6, 7, 8, 9, 10, 11, 12] (by decide +kernel) (by decide +kernel)
set_option maxRecDepth 20000 in
theorem gX10_differential_X10_tells : GoodIn wsX10_differential (wsV RX10 183 RX10 yX10_tells wsX10_tells) := goodIn_app (goodIn_of _ (by decide +kernel)) ggX10_differential_X10_tells
theorem dX10_differential_0 : decode cX10_differential 0 = .ok (.aload_n 0, 1) := by decide +kernel
theorem dX10_differential_1 : decode cX10_differential 1 = .ok (.aload_n 0, 1) := by decide +kernel
theorem dX10_differential_2 : decode cX10_differential 2 = .ok (.getfield 7, 3) := by decide +kernel
theorem dX10_differential_5 : decode cX10_differential 5 = .ok (.bipush 39, 2) := by decide +kernel
theorem dX10_differential_7 : decode cX10_differential 7 = .ok (.laload, 1) := by decide +kernel
theorem dX10_differential_8 : decode cX10_differential 8 = .ok (.invokevirtual 183, 3) := by decide +kernel
theorem dX10_differential_11 : decode cX10_differential 11 = .ok (.ireturn, 1) := by decide +kernel
set_option maxRecDepth 20000 in
theorem ggX10_densityNow_X10_densityAt : GoodIn wsX10_densityNow wsX10_densityAt := goodIn_r _ [6, 1, 7, 8, 9, 10, 11, 12, 13, 14, 5, 15, 16, 17, 18, 19, 20] (by decide +kernel) (by decide +kernel)
set_option maxRecDepth 20000 in
theorem gX10_densityNow_X10_densityAt : GoodIn wsX10_densityNow (wsV RX10 121 RX10 yX10_densityAt wsX10_densityAt) := goodIn_app (goodIn_of _ (by decide +kernel)) ggX10_densityNow_X10_densityAt
theorem dX10_densityNow_0 : decode cX10_densityNow 0 = .ok (.aload_n 0, 1) := by decide +kernel
theorem dX10_densityNow_1 : decode cX10_densityNow 1 = .ok (.aload_n 0, 1) := by decide +kernel
theorem dX10_densityNow_2 : decode cX10_densityNow 2 = .ok (.getfield 7, 3) := by decide +kernel
theorem dX10_densityNow_5 : decode cX10_densityNow 5 = .ok (.bipush 20, 2) := by decide +kernel
theorem dX10_densityNow_7 : decode cX10_densityNow 7 = .ok (.laload, 1) := by decide +kernel
theorem dX10_densityNow_8 : decode cX10_densityNow 8 = .ok (.aload_n 0, 1) := by decide +kernel
theorem dX10_densityNow_9 : decode cX10_densityNow 9 = .ok (.getfield 7, 3) := by decide +kernel
theorem dX10_densityNow_12 : decode cX10_densityNow 12 = .ok (.bipush 21, 2) := by decide +kernel
theorem dX10_densityNow_14 : decode cX10_densityNow 14 = .ok (.laload, 1) := by decide +kernel
theorem dX10_densityNow_15 : decode cX10_densityNow 15 = .ok (.invokevirtual 121, 3) := by decide +kernel
theorem dX10_densityNow_18 : decode cX10_densityNow 18 = .ok (.lreturn, 1) := by decide +kernel
set_option maxRecDepth 20000 in
theorem ggX10_density_X10_densityNow : GoodIn wsX10_density wsX10_densityNow := goodIn_r _ [6, 7, 8, 9, 10, 5, 11, 12, 13, 14, 15, 16, 17, 18, 19, 20, 21, 22, 23, 24, 25] (by decide +kernel) (by decide +kernel)
set_option maxRecDepth 20000 in
theorem gX10_density_X10_densityNow : GoodIn wsX10_density (wsV RX10 187 RX10 yX10_densityNow wsX10_densityNow) := goodIn_app (goodIn_of _ (by decide +kernel)) ggX10_density_X10_densityNow
theorem dX10_density_0 : decode cX10_density 0 = .ok (.aload_n 0, 1) := by decide +kernel
theorem dX10_density_1 : decode cX10_density 1 = .ok (.iconst 0, 1) := by decide +kernel
theorem dX10_density_2 : decode cX10_density 2 = .ok (.putfield 30, 3) := by decide +kernel
theorem dX10_density_5 : decode cX10_density 5 = .ok (.aload_n 0, 1) := by decide +kernel
theorem dX10_density_6 : decode cX10_density 6 = .ok (.invokevirtual 187, 3) := by decide +kernel
theorem dX10_density_9 : decode cX10_density 9 = .ok (.lreturn, 1) := by decide +kernel
theorem dX10_flow_0 : decode cX10_flow 0 = .ok (.aload_n 0, 1) := by decide +kernel
theorem dX10_flow_1 : decode cX10_flow 1 = .ok (.iconst 0, 1) := by decide +kernel
theorem dX10_flow_2 : decode cX10_flow 2 = .ok (.putfield 30, 3) := by decide +kernel
theorem dX10_flow_5 : decode cX10_flow 5 = .ok (.aload_n 0, 1) := by decide +kernel
theorem dX10_flow_6 : decode cX10_flow 6 = .ok (.getfield 7, 3) := by decide +kernel
theorem dX10_flow_9 : decode cX10_flow 9 = .ok (.bipush 40, 2) := by decide +kernel
theorem dX10_flow_11 : decode cX10_flow 11 = .ok (.laload, 1) := by decide +kernel
theorem dX10_flow_12 : decode cX10_flow 12 = .ok (.lreturn, 1) := by decide +kernel
theorem dX10_isFlowing_0 : decode cX10_isFlowing 0 = .ok (.aload_n 0, 1) := by decide +kernel
theorem dX10_isFlowing_1 : decode cX10_isFlowing 1 = .ok (.iconst 0, 1) := by decide +kernel
theorem dX10_isFlowing_2 : decode cX10_isFlowing 2 = .ok (.putfield 30, 3) := by decide +kernel
theorem dX10_isFlowing_5 : decode cX10_isFlowing 5 = .ok (.aload_n 0, 1) := by decide +kernel
theorem dX10_isFlowing_6 : decode cX10_isFlowing 6 = .ok (.getfield 7, 3) := by decide +kernel
theorem dX10_isFlowing_9 : decode cX10_isFlowing 9 = .ok (.bipush 41, 2) := by decide +kernel
theorem dX10_isFlowing_11 : decode cX10_isFlowing 11 = .ok (.laload, 1) := by decide +kernel
theorem dX10_isFlowing_12 : decode cX10_isFlowing 12 = .ok (.lconst 1, 1) := by decide +kernel
theorem dX10_isFlowing_13 : decode cX10_isFlowing 13 = .ok (.lcmp, 1) := by decide +kernel
theorem dX10_isFlowing_14 : decode cX10_isFlowing 14 = .ok (.ifCond .ne 7, 3) := by decide +kernel
theorem dX10_isFlowing_17 : decode cX10_isFlowing 17 = .ok (.iconst 1, 1) := by decide +kernel
theorem dX10_isFlowing_18 : decode cX10_isFlowing 18 = .ok (.goto 4, 3) := by decide +kernel
theorem dX10_isFlowing_21 : decode cX10_isFlowing 21 = .ok (.iconst 0, 1) := by decide +kernel
theorem dX10_isFlowing_22 : decode cX10_isFlowing 22 = .ok (.ireturn, 1) := by decide +kernel
theorem dX10_totalOf_0 : decode cX10_totalOf 0 = .ok (.iload_n 1, 1) := by decide +kernel
theorem dX10_totalOf_1 : decode cX10_totalOf 1 = .ok (.ifCond .ne 13, 3) := by decide +kernel
theorem dX10_totalOf_4 : decode cX10_totalOf 4 = .ok (.aload_n 0, 1) := by decide +kernel
theorem dX10_totalOf_5 : decode cX10_totalOf 5 = .ok (.getfield 7, 3) := by decide +kernel
theorem dX10_totalOf_8 : decode cX10_totalOf 8 = .ok (.bipush 42, 2) := by decide +kernel
theorem dX10_totalOf_10 : decode cX10_totalOf 10 = .ok (.laload, 1) := by decide +kernel
theorem dX10_totalOf_11 : decode cX10_totalOf 11 = .ok (.goto 40, 3) := by decide +kernel
theorem dX10_totalOf_14 : decode cX10_totalOf 14 = .ok (.iload_n 1, 1) := by decide +kernel
theorem dX10_totalOf_15 : decode cX10_totalOf 15 = .ok (.iconst 1, 1) := by decide +kernel
theorem dX10_totalOf_16 : decode cX10_totalOf 16 = .ok (.if_icmp .ne 13, 3) := by decide +kernel
theorem dX10_totalOf_19 : decode cX10_totalOf 19 = .ok (.aload_n 0, 1) := by decide +kernel
theorem dX10_totalOf_20 : decode cX10_totalOf 20 = .ok (.getfield 7, 3) := by decide +kernel
theorem dX10_totalOf_23 : decode cX10_totalOf 23 = .ok (.bipush 43, 2) := by decide +kernel
theorem dX10_totalOf_25 : decode cX10_totalOf 25 = .ok (.laload, 1) := by decide +kernel
theorem dX10_totalOf_26 : decode cX10_totalOf 26 = .ok (.goto 25, 3) := by decide +kernel
theorem dX10_totalOf_29 : decode cX10_totalOf 29 = .ok (.iload_n 1, 1) := by decide +kernel
theorem dX10_totalOf_30 : decode cX10_totalOf 30 = .ok (.iconst 2, 1) := by decide +kernel
theorem dX10_totalOf_31 : decode cX10_totalOf 31 = .ok (.if_icmp .ne 13, 3) := by decide +kernel
theorem dX10_totalOf_34 : decode cX10_totalOf 34 = .ok (.aload_n 0, 1) := by decide +kernel
theorem dX10_totalOf_35 : decode cX10_totalOf 35 = .ok (.getfield 7, 3) := by decide +kernel
theorem dX10_totalOf_38 : decode cX10_totalOf 38 = .ok (.bipush 44, 2) := by decide +kernel
theorem dX10_totalOf_40 : decode cX10_totalOf 40 = .ok (.laload, 1) := by decide +kernel
theorem dX10_totalOf_41 : decode cX10_totalOf 41 = .ok (.goto 10, 3) := by decide +kernel
theorem dX10_totalOf_44 : decode cX10_totalOf 44 = .ok (.aload_n 0, 1) := by decide +kernel
theorem dX10_totalOf_45 : decode cX10_totalOf 45 = .ok (.getfield 7, 3) := by decide +kernel
theorem dX10_totalOf_48 : decode cX10_totalOf 48 = .ok (.bipush 50, 2) := by decide +kernel
theorem dX10_totalOf_50 : decode cX10_totalOf 50 = .ok (.laload, 1) := by decide +kernel
theorem dX10_totalOf_51 : decode cX10_totalOf 51 = .ok (.lreturn, 1) := by decide +kernel
set_option maxRecDepth 20000 in
theorem ggX10_total_X10_in : GoodIn wsX10_total wsX10_in := goodIn_r _ [6] (by decide +kernel) (by decide +kernel)
set_option maxRecDepth 20000 in
theorem gX10_total_X10_in : GoodIn wsX10_total (va_wsS RX10 50 yX10_in wsX10_in) := goodIn_app (goodIn_of _ (by decide +kernel)) ggX10_total_X10_in
set_option maxRecDepth 20000 in
theorem ggX10_total_X10_fails : GoodIn wsX10_total wsX10_fails := goodIn_r _ [10, 2, 16, 17, 18, 19, 20] (by decide +kernel) (by decide +kernel)
set_option maxRecDepth 20000 in
theorem gX10_total_X10_fails : GoodIn wsX10_total (wsV RX10 58 RX10 yX10_fails wsX10_fails) := goodIn_app (goodIn_of _ (by decide +kernel)) ggX10_total_X10_fails
set_option maxRecDepth 20000 in
theorem ggX10_total_X10_totalOf : GoodIn wsX10_total wsX10_totalOf := goodIn_r _ [14, 15, 16, 17, 18, 19, 20] (by decide +kernel) (by decide +kernel)
set_option maxRecDepth 20000 in
theorem gX10_total_X10_totalOf : GoodIn wsX10_total (wsV RX10 190 RX10 yX10_totalOf wsX10_totalOf) := goodIn_app (goodIn_of _ (by decide +kernel)) ggX10_total_X10_totalOf
theorem dX10_total_0 : decode cX10_total 0 = .ok (.iload_n 1, 1) := by decide +kernel
theorem dX10_total_1 : decode cX10_total 1 = .ok (.i2l, 1) := by decide +kernel
theorem dX10_total_2 : decode cX10_total 2 = .ok (.lconst 0, 1) := by decide +kernel
theorem dX10_total_3 : decode cX10_total 3 = .ok (.ldc2_w 48, 3) := by decide +kernel
theorem dX10_total_6 : decode cX10_total 6 = .ok (.invokestatic 50, 3) := by decide +kernel
theorem dX10_total_9 : decode cX10_total 9 = .ok (.ifCond .ne 10, 3) := by decide +kernel
theorem dX10_total_12 : decode cX10_total 12 = .ok (.aload_n 0, 1) := by decide +kernel
theorem dX10_total_13 : decode cX10_total 13 = .ok (.iconst 1, 1) := by decide +kernel
theorem dX10_total_14 : decode cX10_total 14 = .ok (.invokevirtual 58, 3) := by decide +kernel
theorem dX10_total_17 : decode cX10_total 17 = .ok (.i2l, 1) := by decide +kernel
theorem dX10_total_18 : decode cX10_total 18 = .ok (.lreturn, 1) := by decide +kernel
theorem dX10_total_19 : decode cX10_total 19 = .ok (.aload_n 0, 1) := by decide +kernel
theorem dX10_total_20 : decode cX10_total 20 = .ok (.iconst 0, 1) := by decide +kernel
theorem dX10_total_21 : decode cX10_total 21 = .ok (.putfield 30, 3) := by decide +kernel
theorem dX10_total_24 : decode cX10_total 24 = .ok (.aload_n 0, 1) := by decide +kernel
theorem dX10_total_25 : decode cX10_total 25 = .ok (.iload_n 1, 1) := by decide +kernel
theorem dX10_total_26 : decode cX10_total 26 = .ok (.invokevirtual 190, 3) := by decide +kernel
theorem dX10_total_29 : decode cX10_total 29 = .ok (.lreturn, 1) := by decide +kernel
set_option maxRecDepth 20000 in
theorem ggX10_valve_X10_tells : GoodIn wsX10_valve wsX10_tells := goodIn_r _ [6, 7, 8, 9, 10, 11, 12] (by decide +kernel) (by decide +kernel)
set_option maxRecDepth 20000 in
theorem gX10_valve_X10_tells : GoodIn wsX10_valve (wsV RX10 183 RX10 yX10_tells wsX10_tells) := goodIn_app (goodIn_of _ (by decide +kernel)) ggX10_valve_X10_tells
theorem dX10_valve_0 : decode cX10_valve 0 = .ok (.aload_n 0, 1) := by decide +kernel
theorem dX10_valve_1 : decode cX10_valve 1 = .ok (.aload_n 0, 1) := by decide +kernel
theorem dX10_valve_2 : decode cX10_valve 2 = .ok (.getfield 7, 3) := by decide +kernel
theorem dX10_valve_5 : decode cX10_valve 5 = .ok (.bipush 49, 2) := by decide +kernel
theorem dX10_valve_7 : decode cX10_valve 7 = .ok (.laload, 1) := by decide +kernel
theorem dX10_valve_8 : decode cX10_valve 8 = .ok (.invokevirtual 183, 3) := by decide +kernel
theorem dX10_valve_11 : decode cX10_valve 11 = .ok (.ireturn, 1) := by decide +kernel
set_option maxRecDepth 20000 in
theorem ggX10_flowFor_X10_in : GoodIn wsX10_flowFor wsX10_in := goodIn_r _ [8] (by decide +kernel) (by decide +kernel)
set_option maxRecDepth 20000 in
theorem gX10_flowFor_X10_in : GoodIn wsX10_flowFor (va_wsS RX10 50 yX10_in wsX10_in) := goodIn_app (goodIn_of _ (by decide +kernel)) ggX10_flowFor_X10_in
set_option maxRecDepth 20000 in
theorem ggX10_flowFor_X10_fails : GoodIn wsX10_flowFor wsX10_fails := goodIn_r _ [12, 4, 48, 49, 50, 51, 52] (by decide +kernel) (by decide +kernel)
set_option maxRecDepth 20000 in
theorem gX10_flowFor_X10_fails : GoodIn wsX10_flowFor (wsV RX10 58 RX10 yX10_fails wsX10_fails) := goodIn_app (goodIn_of _ (by decide +kernel)) ggX10_flowFor_X10_fails
set_option maxRecDepth 20000 in
theorem ggX10_flowFor_X10_flowBy : GoodIn wsX10_flowFor wsX10_flowBy := goodIn_r _ [16, 17, 18, 19, 20, 21, 22, 23, 24, 25, 7, 26, 27, 28, 29, 30, 31, 32, 33, 34, 35, 36, 37, 38, 39, 40, 41, 42, 43, 44, 1, 45, 46, 47, 3, 48, 49, 50, 51, 52] (by decide +kernel) (by decide +kernel)
set_option maxRecDepth 20000 in
theorem gX10_flowFor_X10_flowBy : GoodIn wsX10_flowFor (wsV RX10 150 RX10 yX10_flowBy wsX10_flowBy) := goodIn_app (goodIn_of _ (by decide +kernel)) ggX10_flowFor_X10_flowBy
theorem dX10_flowFor_0 : decode cX10_flowFor 0 = .ok (.iload_n 1, 1) := by decide +kernel
theorem dX10_flowFor_1 : decode cX10_flowFor 1 = .ok (.i2l, 1) := by decide +kernel
theorem dX10_flowFor_2 : decode cX10_flowFor 2 = .ok (.lconst 0, 1) := by decide +kernel
theorem dX10_flowFor_3 : decode cX10_flowFor 3 = .ok (.ldc2_w 64, 3) := by decide +kernel
theorem dX10_flowFor_6 : decode cX10_flowFor 6 = .ok (.invokestatic 50, 3) := by decide +kernel
theorem dX10_flowFor_9 : decode cX10_flowFor 9 = .ok (.ifCond .eq 29, 3) := by decide +kernel
theorem dX10_flowFor_12 : decode cX10_flowFor 12 = .ok (.iload_n 2, 1) := by decide +kernel
theorem dX10_flowFor_13 : decode cX10_flowFor 13 = .ok (.i2l, 1) := by decide +kernel
theorem dX10_flowFor_14 : decode cX10_flowFor 14 = .ok (.lconst 0, 1) := by decide +kernel
theorem dX10_flowFor_15 : decode cX10_flowFor 15 = .ok (.ldc2_w 64, 3) := by decide +kernel
theorem dX10_flowFor_18 : decode cX10_flowFor 18 = .ok (.invokestatic 50, 3) := by decide +kernel
theorem dX10_flowFor_21 : decode cX10_flowFor 21 = .ok (.ifCond .eq 17, 3) := by decide +kernel
theorem dX10_flowFor_24 : decode cX10_flowFor 24 = .ok (.iload_n 3, 1) := by decide +kernel
theorem dX10_flowFor_25 : decode cX10_flowFor 25 = .ok (.i2l, 1) := by decide +kernel
theorem dX10_flowFor_26 : decode cX10_flowFor 26 = .ok (.ldc2_w 28, 3) := by decide +kernel
theorem dX10_flowFor_29 : decode cX10_flowFor 29 = .ok (.ldc2_w 116, 3) := by decide +kernel
theorem dX10_flowFor_32 : decode cX10_flowFor 32 = .ok (.invokestatic 50, 3) := by decide +kernel
theorem dX10_flowFor_35 : decode cX10_flowFor 35 = .ok (.ifCond .ne 10, 3) := by decide +kernel
theorem dX10_flowFor_38 : decode cX10_flowFor 38 = .ok (.aload_n 0, 1) := by decide +kernel
theorem dX10_flowFor_39 : decode cX10_flowFor 39 = .ok (.iconst 1, 1) := by decide +kernel
theorem dX10_flowFor_40 : decode cX10_flowFor 40 = .ok (.invokevirtual 58, 3) := by decide +kernel
theorem dX10_flowFor_43 : decode cX10_flowFor 43 = .ok (.i2l, 1) := by decide +kernel
theorem dX10_flowFor_44 : decode cX10_flowFor 44 = .ok (.lreturn, 1) := by decide +kernel
theorem dX10_flowFor_45 : decode cX10_flowFor 45 = .ok (.aload_n 0, 1) := by decide +kernel
theorem dX10_flowFor_46 : decode cX10_flowFor 46 = .ok (.iconst 0, 1) := by decide +kernel
theorem dX10_flowFor_47 : decode cX10_flowFor 47 = .ok (.putfield 30, 3) := by decide +kernel
theorem dX10_flowFor_50 : decode cX10_flowFor 50 = .ok (.aload_n 0, 1) := by decide +kernel
theorem dX10_flowFor_51 : decode cX10_flowFor 51 = .ok (.iload_n 1, 1) := by decide +kernel
theorem dX10_flowFor_52 : decode cX10_flowFor 52 = .ok (.i2l, 1) := by decide +kernel
theorem dX10_flowFor_53 : decode cX10_flowFor 53 = .ok (.iload_n 2, 1) := by decide +kernel
theorem dX10_flowFor_54 : decode cX10_flowFor 54 = .ok (.i2l, 1) := by decide +kernel
theorem dX10_flowFor_55 : decode cX10_flowFor 55 = .ok (.iload_n 3, 1) := by decide +kernel
theorem dX10_flowFor_56 : decode cX10_flowFor 56 = .ok (.i2l, 1) := by decide +kernel
theorem dX10_flowFor_57 : decode cX10_flowFor 57 = .ok (.invokevirtual 150, 3) := by decide +kernel
theorem dX10_flowFor_60 : decode cX10_flowFor 60 = .ok (.lreturn, 1) := by decide +kernel
set_option maxRecDepth 20000 in
theorem ggX10_differentialFor_X10_in : GoodIn wsX10_differentialFor wsX10_in := goodIn_r _ [7] (by decide +kernel) (by decide +kernel)
set_option maxRecDepth 20000 in
theorem gX10_differentialFor_X10_in : GoodIn wsX10_differentialFor (va_wsS RX10 50 yX10_in wsX10_in) := goodIn_app (goodIn_of _ (by decide +kernel)) ggX10_differentialFor_X10_in
set_option maxRecDepth 20000 in
theorem ggX10_differentialFor_X10_fails : GoodIn wsX10_differentialFor wsX10_fails := goodIn_r _ [11, 12, 53, 54, 55, 56, 57] (by decide +kernel) (by decide +kernel)
set_option maxRecDepth 20000 in
theorem gX10_differentialFor_X10_fails : GoodIn wsX10_differentialFor (wsV RX10 58 RX10 yX10_fails wsX10_fails) := goodIn_app (goodIn_of _ (by decide +kernel)) ggX10_differentialFor_X10_fails
set_option maxRecDepth 20000 in
theorem ggX10_differentialFor_X10_flowBy : GoodIn wsX10_differentialFor wsX10_flowBy := goodIn_r _ [16, 2, 17, 18, 19, 20, 21, 22, 23, 24, 6, 25, 26, 27, 28, 29, 30, 31, 32, 33, 34, 35, 36, 37, 38, 39, 40, 41, 42, 43, 44, 45, 46, 47, 48, 53, 54, 55, 56, 57] (by decide +kernel) (by decide +kernel)
set_option maxRecDepth 20000 in
theorem gX10_differentialFor_X10_flowBy : GoodIn wsX10_differentialFor (wsV RX10 150 RX10 yX10_flowBy wsX10_flowBy) := goodIn_app (goodIn_of _ (by decide +kernel)) ggX10_differentialFor_X10_flowBy
set_option maxRecDepth 20000 in
theorem ggX10_differentialFor_X10_tells : GoodIn wsX10_differentialFor wsX10_tells := goodIn_r _ [52, 12, 53, 54, 55, 56, 57] (by decide +kernel) (by decide +kernel)
set_option maxRecDepth 20000 in
theorem gX10_differentialFor_X10_tells : GoodIn wsX10_differentialFor (wsV RX10 183 RX10 yX10_tells wsX10_tells) := goodIn_app (goodIn_of _ (by decide +kernel)) ggX10_differentialFor_X10_tells
theorem dX10_differentialFor_0 : decode cX10_differentialFor 0 = .ok (.lload_n 1, 1) := by decide +kernel
theorem dX10_differentialFor_1 : decode cX10_differentialFor 1 = .ok (.lconst 0, 1) := by decide +kernel
theorem dX10_differentialFor_2 : decode cX10_differentialFor 2 = .ok (.ldc2_w 181, 3) := by decide +kernel
theorem dX10_differentialFor_5 : decode cX10_differentialFor 5 = .ok (.invokestatic 50, 3) := by decide +kernel
theorem dX10_differentialFor_8 : decode cX10_differentialFor 8 = .ok (.ifCond .ne 9, 3) := by decide +kernel
theorem dX10_differentialFor_11 : decode cX10_differentialFor 11 = .ok (.aload_n 0, 1) := by decide +kernel
theorem dX10_differentialFor_12 : decode cX10_differentialFor 12 = .ok (.iconst 1, 1) := by decide +kernel
theorem dX10_differentialFor_13 : decode cX10_differentialFor 13 = .ok (.invokevirtual 58, 3) := by decide +kernel
theorem dX10_differentialFor_16 : decode cX10_differentialFor 16 = .ok (.ireturn, 1) := by decide +kernel
theorem dX10_differentialFor_17 : decode cX10_differentialFor 17 = .ok (.iconst 0, 1) := by decide +kernel
theorem dX10_differentialFor_18 : decode cX10_differentialFor 18 = .ok (.istore_n 3, 1) := by decide +kernel
theorem dX10_differentialFor_19 : decode cX10_differentialFor 19 = .ok (.iload_n 3, 1) := by decide +kernel
theorem dX10_differentialFor_20 : decode cX10_differentialFor 20 = .ok (.sipush 30000, 3) := by decide +kernel
theorem dX10_differentialFor_23 : decode cX10_differentialFor 23 = .ok (.if_icmp .gt 34, 3) := by decide +kernel
theorem dX10_differentialFor_26 : decode cX10_differentialFor 26 = .ok (.aload_n 0, 1) := by decide +kernel
theorem dX10_differentialFor_27 : decode cX10_differentialFor 27 = .ok (.iload_n 3, 1) := by decide +kernel
theorem dX10_differentialFor_28 : decode cX10_differentialFor 28 = .ok (.i2l, 1) := by decide +kernel
theorem dX10_differentialFor_29 : decode cX10_differentialFor 29 = .ok (.aload_n 0, 1) := by decide +kernel
theorem dX10_differentialFor_30 : decode cX10_differentialFor 30 = .ok (.getfield 7, 3) := by decide +kernel
theorem dX10_differentialFor_33 : decode cX10_differentialFor 33 = .ok (.bipush 20, 2) := by decide +kernel
theorem dX10_differentialFor_35 : decode cX10_differentialFor 35 = .ok (.laload, 1) := by decide +kernel
theorem dX10_differentialFor_36 : decode cX10_differentialFor 36 = .ok (.aload_n 0, 1) := by decide +kernel
theorem dX10_differentialFor_37 : decode cX10_differentialFor 37 = .ok (.getfield 7, 3) := by decide +kernel
theorem dX10_differentialFor_40 : decode cX10_differentialFor 40 = .ok (.bipush 21, 2) := by decide +kernel
theorem dX10_differentialFor_42 : decode cX10_differentialFor 42 = .ok (.laload, 1) := by decide +kernel
theorem dX10_differentialFor_43 : decode cX10_differentialFor 43 = .ok (.invokevirtual 150, 3) := by decide +kernel
theorem dX10_differentialFor_46 : decode cX10_differentialFor 46 = .ok (.lload_n 1, 1) := by decide +kernel
theorem dX10_differentialFor_47 : decode cX10_differentialFor 47 = .ok (.lcmp, 1) := by decide +kernel
theorem dX10_differentialFor_48 : decode cX10_differentialFor 48 = .ok (.ifCond .ge 9, 3) := by decide +kernel
theorem dX10_differentialFor_51 : decode cX10_differentialFor 51 = .ok (.iinc 3 1, 3) := by decide +kernel
theorem dX10_differentialFor_54 : decode cX10_differentialFor 54 = .ok (.goto (-35), 3) := by decide +kernel
theorem dX10_differentialFor_57 : decode cX10_differentialFor 57 = .ok (.aload_n 0, 1) := by decide +kernel
theorem dX10_differentialFor_58 : decode cX10_differentialFor 58 = .ok (.iload_n 3, 1) := by decide +kernel
theorem dX10_differentialFor_59 : decode cX10_differentialFor 59 = .ok (.sipush 30000, 3) := by decide +kernel
theorem dX10_differentialFor_62 : decode cX10_differentialFor 62 = .ok (.if_icmp .gt 8, 3) := by decide +kernel
theorem dX10_differentialFor_65 : decode cX10_differentialFor 65 = .ok (.iload_n 3, 1) := by decide +kernel
theorem dX10_differentialFor_66 : decode cX10_differentialFor 66 = .ok (.i2l, 1) := by decide +kernel
theorem dX10_differentialFor_67 : decode cX10_differentialFor 67 = .ok (.goto 6, 3) := by decide +kernel
theorem dX10_differentialFor_70 : decode cX10_differentialFor 70 = .ok (.ldc2_w 193, 3) := by decide +kernel
theorem dX10_differentialFor_73 : decode cX10_differentialFor 73 = .ok (.invokevirtual 183, 3) := by decide +kernel
theorem dX10_differentialFor_76 : decode cX10_differentialFor 76 = .ok (.ireturn, 1) := by decide +kernel
set_option maxRecDepth 20000 in
theorem ggX10_hours_X10_tells : GoodIn wsX10_hours wsX10_tells := goodIn_r _ [6, 7, 8, 9, 10, 11, 12] (by decide +kernel) (by decide +kernel)
set_option maxRecDepth 20000 in
theorem gX10_hours_X10_tells : GoodIn wsX10_hours (wsV RX10 183 RX10 yX10_tells wsX10_tells) := goodIn_app (goodIn_of _ (by decide +kernel)) ggX10_hours_X10_tells
theorem dX10_hours_0 : decode cX10_hours 0 = .ok (.aload_n 0, 1) := by decide +kernel
theorem dX10_hours_1 : decode cX10_hours 1 = .ok (.aload_n 0, 1) := by decide +kernel
theorem dX10_hours_2 : decode cX10_hours 2 = .ok (.getfield 7, 3) := by decide +kernel
theorem dX10_hours_5 : decode cX10_hours 5 = .ok (.bipush 63, 2) := by decide +kernel
theorem dX10_hours_7 : decode cX10_hours 7 = .ok (.laload, 1) := by decide +kernel
theorem dX10_hours_8 : decode cX10_hours 8 = .ok (.invokevirtual 183, 3) := by decide +kernel
theorem dX10_hours_11 : decode cX10_hours 11 = .ok (.ireturn, 1) := by decide +kernel
set_option maxRecDepth 20000 in
theorem ggX10_record_X10_in : GoodIn wsX10_record wsX10_in := goodIn_r _ [6] (by decide +kernel) (by decide +kernel)
set_option maxRecDepth 20000 in
theorem gX10_record_X10_in : GoodIn wsX10_record (va_wsS RX10 50 yX10_in wsX10_in) := goodIn_app (goodIn_of _ (by decide +kernel)) ggX10_record_X10_in
set_option maxRecDepth 20000 in
theorem ggX10_record_X10_fails : GoodIn wsX10_record wsX10_fails := goodIn_r _ [10, 2, 11, 12, 13, 14, 15] (by decide +kernel) (by decide +kernel)
set_option maxRecDepth 20000 in
theorem gX10_record_X10_fails : GoodIn wsX10_record (wsV RX10 58 RX10 yX10_fails wsX10_fails) := goodIn_app (goodIn_of _ (by decide +kernel)) ggX10_record_X10_fails
theorem dX10_record_0 : decode cX10_record 0 = .ok (.iload_n 3, 1) := by decide +kernel
theorem dX10_record_1 : decode cX10_record 1 = .ok (.i2l, 1) := by decide +kernel
theorem dX10_record_2 : decode cX10_record 2 = .ok (.lconst 0, 1) := by decide +kernel
theorem dX10_record_3 : decode cX10_record 3 = .ok (.aload_n 0, 1) := by decide +kernel
theorem dX10_record_4 : decode cX10_record 4 = .ok (.getfield 7, 3) := by decide +kernel
theorem dX10_record_7 : decode cX10_record 7 = .ok (.iload_n 1, 1) := by decide +kernel
theorem dX10_record_8 : decode cX10_record 8 = .ok (.laload, 1) := by decide +kernel
theorem dX10_record_9 : decode cX10_record 9 = .ok (.lconst 1, 1) := by decide +kernel
theorem dX10_record_10 : decode cX10_record 10 = .ok (.lsub, 1) := by decide +kernel
theorem dX10_record_11 : decode cX10_record 11 = .ok (.invokestatic 50, 3) := by decide +kernel
theorem dX10_record_14 : decode cX10_record 14 = .ok (.ifCond .ne 10, 3) := by decide +kernel
theorem dX10_record_17 : decode cX10_record 17 = .ok (.aload_n 0, 1) := by decide +kernel
theorem dX10_record_18 : decode cX10_record 18 = .ok (.iconst 1, 1) := by decide +kernel
theorem dX10_record_19 : decode cX10_record 19 = .ok (.invokevirtual 58, 3) := by decide +kernel
theorem dX10_record_22 : decode cX10_record 22 = .ok (.i2l, 1) := by decide +kernel
theorem dX10_record_23 : decode cX10_record 23 = .ok (.lreturn, 1) := by decide +kernel
theorem dX10_record_24 : decode cX10_record 24 = .ok (.iload 4, 2) := by decide +kernel
theorem dX10_record_26 : decode cX10_record 26 = .ok (.i2l, 1) := by decide +kernel
theorem dX10_record_27 : decode cX10_record 27 = .ok (.lconst 0, 1) := by decide +kernel
theorem dX10_record_28 : decode cX10_record 28 = .ok (.iload_n 2, 1) := by decide +kernel
theorem dX10_record_29 : decode cX10_record 29 = .ok (.iconst 1, 1) := by decide +kernel
theorem dX10_record_30 : decode cX10_record 30 = .ok (.isub, 1) := by decide +kernel
theorem dX10_record_31 : decode cX10_record 31 = .ok (.i2l, 1) := by decide +kernel
theorem dX10_record_32 : decode cX10_record 32 = .ok (.invokestatic 50, 3) := by decide +kernel
theorem dX10_record_35 : decode cX10_record 35 = .ok (.ifCond .ne 10, 3) := by decide +kernel
theorem dX10_record_38 : decode cX10_record 38 = .ok (.aload_n 0, 1) := by decide +kernel
theorem dX10_record_39 : decode cX10_record 39 = .ok (.iconst 2, 1) := by decide +kernel
theorem dX10_record_40 : decode cX10_record 40 = .ok (.invokevirtual 58, 3) := by decide +kernel
theorem dX10_record_43 : decode cX10_record 43 = .ok (.i2l, 1) := by decide +kernel
theorem dX10_record_44 : decode cX10_record 44 = .ok (.lreturn, 1) := by decide +kernel
theorem dX10_record_45 : decode cX10_record 45 = .ok (.aload_n 0, 1) := by decide +kernel
theorem dX10_record_46 : decode cX10_record 46 = .ok (.iconst 0, 1) := by decide +kernel
theorem dX10_record_47 : decode cX10_record 47 = .ok (.putfield 30, 3) := by decide +kernel
theorem dX10_record_50 : decode cX10_record 50 = .ok (.aload_n 0, 1) := by decide +kernel
theorem dX10_record_51 : decode cX10_record 51 = .ok (.getfield 7, 3) := by decide +kernel
theorem dX10_record_54 : decode cX10_record 54 = .ok (.iload_n 1, 1) := by decide +kernel
theorem dX10_record_55 : decode cX10_record 55 = .ok (.iconst 1, 1) := by decide +kernel
theorem dX10_record_56 : decode cX10_record 56 = .ok (.iadd, 1) := by decide +kernel
theorem dX10_record_57 : decode cX10_record 57 = .ok (.iload_n 2, 1) := by decide +kernel
theorem dX10_record_58 : decode cX10_record 58 = .ok (.iload_n 3, 1) := by decide +kernel
theorem dX10_record_59 : decode cX10_record 59 = .ok (.imul, 1) := by decide +kernel
theorem dX10_record_60 : decode cX10_record 60 = .ok (.iadd, 1) := by decide +kernel
theorem dX10_record_61 : decode cX10_record 61 = .ok (.iload 4, 2) := by decide +kernel
theorem dX10_record_63 : decode cX10_record 63 = .ok (.iadd, 1) := by decide +kernel
theorem dX10_record_64 : decode cX10_record 64 = .ok (.laload, 1) := by decide +kernel
theorem dX10_record_65 : decode cX10_record 65 = .ok (.lreturn, 1) := by decide +kernel
set_option maxRecDepth 20000 in
theorem ggX10_hour_X10_record : GoodIn wsX10_hour wsX10_record := goodIn_r _ [5, 6, 7, 8, 9, 4, 10, 11, 12, 13, 14, 15, 16, 17, 18, 19] (by decide +kernel) (by decide +kernel)
set_option maxRecDepth 20000 in
theorem gX10_hour_X10_record : GoodIn wsX10_hour (wsV RX10 195 RX10 yX10_record wsX10_record) := goodIn_app (goodIn_of _ (by decide +kernel)) ggX10_hour_X10_record
theorem dX10_hour_0 : decode cX10_hour 0 = .ok (.aload_n 0, 1) := by decide +kernel
theorem dX10_hour_1 : decode cX10_hour 1 = .ok (.bipush 63, 2) := by decide +kernel
theorem dX10_hour_3 : decode cX10_hour 3 = .ok (.bipush 7, 2) := by decide +kernel
theorem dX10_hour_5 : decode cX10_hour 5 = .ok (.iload_n 1, 1) := by decide +kernel
theorem dX10_hour_6 : decode cX10_hour 6 = .ok (.iload_n 2, 1) := by decide +kernel
theorem dX10_hour_7 : decode cX10_hour 7 = .ok (.invokevirtual 195, 3) := by decide +kernel
theorem dX10_hour_10 : decode cX10_hour 10 = .ok (.lreturn, 1) := by decide +kernel
set_option maxRecDepth 20000 in
theorem ggX10_days_X10_tells : GoodIn wsX10_days wsX10_tells := goodIn_r _ [6, 7, 8, 9, 10, 11, 12] (by decide +kernel) (by decide +kernel)
set_option maxRecDepth 20000 in
theorem gX10_days_X10_tells : GoodIn wsX10_days (wsV RX10 183 RX10 yX10_tells wsX10_tells) := goodIn_app (goodIn_of _ (by decide +kernel)) ggX10_days_X10_tells
theorem dX10_days_0 : decode cX10_days 0 = .ok (.aload_n 0, 1) := by decide +kernel
theorem dX10_days_1 : decode cX10_days 1 = .ok (.aload_n 0, 1) := by decide +kernel
theorem dX10_days_2 : decode cX10_days 2 = .ok (.getfield 7, 3) := by decide +kernel
theorem dX10_days_5 : decode cX10_days 5 = .ok (.sipush 232, 3) := by decide +kernel
theorem dX10_days_8 : decode cX10_days 8 = .ok (.laload, 1) := by decide +kernel
theorem dX10_days_9 : decode cX10_days 9 = .ok (.invokevirtual 183, 3) := by decide +kernel
theorem dX10_days_12 : decode cX10_days 12 = .ok (.ireturn, 1) := by decide +kernel
set_option maxRecDepth 20000 in
theorem ggX10_day_X10_record : GoodIn wsX10_day wsX10_record := goodIn_r _ [5, 6, 7, 8, 9, 4, 10, 11, 12, 13, 14, 15, 16, 17, 18, 19] (by decide +kernel) (by decide +kernel)
set_option maxRecDepth 20000 in
theorem gX10_day_X10_record : GoodIn wsX10_day (wsV RX10 195 RX10 yX10_record wsX10_record) := goodIn_app (goodIn_of _ (by decide +kernel)) ggX10_day_X10_record
theorem dX10_day_0 : decode cX10_day 0 = .ok (.aload_n 0, 1) := by decide +kernel
theorem dX10_day_1 : decode cX10_day 1 = .ok (.sipush 232, 3) := by decide +kernel
theorem dX10_day_4 : decode cX10_day 4 = .ok (.iconst 4, 1) := by decide +kernel
theorem dX10_day_5 : decode cX10_day 5 = .ok (.iload_n 1, 1) := by decide +kernel
theorem dX10_day_6 : decode cX10_day 6 = .ok (.iload_n 2, 1) := by decide +kernel
theorem dX10_day_7 : decode cX10_day 7 = .ok (.invokevirtual 195, 3) := by decide +kernel
theorem dX10_day_10 : decode cX10_day 10 = .ok (.lreturn, 1) := by decide +kernel
set_option maxRecDepth 20000 in
theorem ggX10_events_X10_tells : GoodIn wsX10_events wsX10_tells := goodIn_r _ [6, 7, 8, 9, 10, 11, 12] (by decide +kernel) (by decide +kernel)
set_option maxRecDepth 20000 in
theorem gX10_events_X10_tells : GoodIn wsX10_events (wsV RX10 183 RX10 yX10_tells wsX10_tells) := goodIn_app (goodIn_of _ (by decide +kernel)) ggX10_events_X10_tells
theorem dX10_events_0 : decode cX10_events 0 = .ok (.aload_n 0, 1) := by decide +kernel
theorem dX10_events_1 : decode cX10_events 1 = .ok (.aload_n 0, 1) := by decide +kernel
theorem dX10_events_2 : decode cX10_events 2 = .ok (.getfield 7, 3) := by decide +kernel
theorem dX10_events_5 : decode cX10_events 5 = .ok (.sipush 253, 3) := by decide +kernel
theorem dX10_events_8 : decode cX10_events 8 = .ok (.laload, 1) := by decide +kernel
theorem dX10_events_9 : decode cX10_events 9 = .ok (.invokevirtual 183, 3) := by decide +kernel
theorem dX10_events_12 : decode cX10_events 12 = .ok (.ireturn, 1) := by decide +kernel
set_option maxRecDepth 20000 in
theorem ggX10_event_X10_record : GoodIn wsX10_event wsX10_record := goodIn_r _ [5, 6, 7, 8, 9, 4, 10, 11, 12, 13, 14, 15, 16, 17, 18, 19] (by decide +kernel) (by decide +kernel)
set_option maxRecDepth 20000 in
theorem gX10_event_X10_record : GoodIn wsX10_event (wsV RX10 195 RX10 yX10_record wsX10_record) := goodIn_app (goodIn_of _ (by decide +kernel)) ggX10_event_X10_record
theorem dX10_event_0 : decode cX10_event 0 = .ok (.aload_n 0, 1) := by decide +kernel
theorem dX10_event_1 : decode cX10_event 1 = .ok (.sipush 253, 3) := by decide +kernel
theorem dX10_event_4 : decode cX10_event 4 = .ok (.iconst 3, 1) := by decide +kernel
theorem dX10_event_5 : decode cX10_event 5 = .ok (.iload_n 1, 1) := by decide +kernel
theorem dX10_event_6 : decode cX10_event 6 = .ok (.iload_n 2, 1) := by decide +kernel
theorem dX10_event_7 : decode cX10_event 7 = .ok (.invokevirtual 195, 3) := by decide +kernel
theorem dX10_event_10 : decode cX10_event 10 = .ok (.lreturn, 1) := by decide +kernel
set_option maxRecDepth 20000 in
theorem ggX10_undo_X10_fails : GoodIn wsX10_undo wsX10_fails := goodIn_r _ [8, 9, 14, 15, 16, 17, 18] (by decide +kernel) (by decide +kernel)
set_option maxRecDepth 20000 in
theorem gX10_undo_X10_fails : GoodIn wsX10_undo (wsV RX10 58 RX10 yX10_fails wsX10_fails) := goodIn_app (goodIn_of _ (by decide +kernel)) ggX10_undo_X10_fails
set_option maxRecDepth 20000 in
theorem ggX10_undo_X10_tells : GoodIn wsX10_undo wsX10_tells := goodIn_r _ [13, 9, 14, 15, 16, 17, 18] (by decide +kernel) (by decide +kernel)
set_option maxRecDepth 20000 in
theorem gX10_undo_X10_tells : GoodIn wsX10_undo (wsV RX10 183 RX10 yX10_tells wsX10_tells) := goodIn_app (goodIn_of _ (by decide +kernel)) ggX10_undo_X10_tells
theorem dX10_undo_0 : decode cX10_undo 0 = .ok (.aload_n 0, 1) := by decide +kernel
theorem dX10_undo_1 : decode cX10_undo 1 = .ok (.getfield 34, 3) := by decide +kernel
theorem dX10_undo_4 : decode cX10_undo 4 = .ok (.ifCond .ne 9, 3) := by decide +kernel
theorem dX10_undo_7 : decode cX10_undo 7 = .ok (.aload_n 0, 1) := by decide +kernel
theorem dX10_undo_8 : decode cX10_undo 8 = .ok (.iconst 1, 1) := by decide +kernel
theorem dX10_undo_9 : decode cX10_undo 9 = .ok (.invokevirtual 58, 3) := by decide +kernel
theorem dX10_undo_12 : decode cX10_undo 12 = .ok (.ireturn, 1) := by decide +kernel
theorem dX10_undo_13 : decode cX10_undo 13 = .ok (.aload_n 0, 1) := by decide +kernel
theorem dX10_undo_14 : decode cX10_undo 14 = .ok (.dup, 1) := by decide +kernel
theorem dX10_undo_15 : decode cX10_undo 15 = .ok (.getfield 34, 3) := by decide +kernel
theorem dX10_undo_18 : decode cX10_undo 18 = .ok (.iconst 1, 1) := by decide +kernel
theorem dX10_undo_19 : decode cX10_undo 19 = .ok (.isub, 1) := by decide +kernel
theorem dX10_undo_20 : decode cX10_undo 20 = .ok (.putfield 34, 3) := by decide +kernel
theorem dX10_undo_23 : decode cX10_undo 23 = .ok (.iconst 0, 1) := by decide +kernel
theorem dX10_undo_24 : decode cX10_undo 24 = .ok (.istore_n 1, 1) := by decide +kernel
theorem dX10_undo_25 : decode cX10_undo 25 = .ok (.iload_n 1, 1) := by decide +kernel
theorem dX10_undo_26 : decode cX10_undo 26 = .ok (.sipush 344, 3) := by decide +kernel
theorem dX10_undo_29 : decode cX10_undo 29 = .ok (.if_icmp .ge 30, 3) := by decide +kernel
theorem dX10_undo_32 : decode cX10_undo 32 = .ok (.aload_n 0, 1) := by decide +kernel
theorem dX10_undo_33 : decode cX10_undo 33 = .ok (.getfield 7, 3) := by decide +kernel
theorem dX10_undo_36 : decode cX10_undo 36 = .ok (.iload_n 1, 1) := by decide +kernel
theorem dX10_undo_37 : decode cX10_undo 37 = .ok (.aload_n 0, 1) := by decide +kernel
theorem dX10_undo_38 : decode cX10_undo 38 = .ok (.getfield 13, 3) := by decide +kernel
theorem dX10_undo_41 : decode cX10_undo 41 = .ok (.sipush 344, 3) := by decide +kernel
theorem dX10_undo_44 : decode cX10_undo 44 = .ok (.aload_n 0, 1) := by decide +kernel
theorem dX10_undo_45 : decode cX10_undo 45 = .ok (.getfield 34, 3) := by decide +kernel
theorem dX10_undo_48 : decode cX10_undo 48 = .ok (.imul, 1) := by decide +kernel
theorem dX10_undo_49 : decode cX10_undo 49 = .ok (.iload_n 1, 1) := by decide +kernel
theorem dX10_undo_50 : decode cX10_undo 50 = .ok (.iadd, 1) := by decide +kernel
theorem dX10_undo_51 : decode cX10_undo 51 = .ok (.laload, 1) := by decide +kernel
theorem dX10_undo_52 : decode cX10_undo 52 = .ok (.lastore, 1) := by decide +kernel
theorem dX10_undo_53 : decode cX10_undo 53 = .ok (.iinc 1 1, 3) := by decide +kernel
theorem dX10_undo_56 : decode cX10_undo 56 = .ok (.goto (-31), 3) := by decide +kernel
theorem dX10_undo_59 : decode cX10_undo 59 = .ok (.aload_n 0, 1) := by decide +kernel
theorem dX10_undo_60 : decode cX10_undo 60 = .ok (.aload_n 0, 1) := by decide +kernel
theorem dX10_undo_61 : decode cX10_undo 61 = .ok (.getfield 34, 3) := by decide +kernel
theorem dX10_undo_64 : decode cX10_undo 64 = .ok (.i2l, 1) := by decide +kernel
theorem dX10_undo_65 : decode cX10_undo 65 = .ok (.invokevirtual 183, 3) := by decide +kernel
theorem dX10_undo_68 : decode cX10_undo 68 = .ok (.ireturn, 1) := by decide +kernel
theorem dX10_mix_0 : decode cX10_mix 0 = .ok (.aload_n 0, 1) := by decide +kernel
theorem dX10_mix_1 : decode cX10_mix 1 = .ok (.ldc2_w 199, 3) := by decide +kernel
theorem dX10_mix_4 : decode cX10_mix 4 = .ok (.aload_n 0, 1) := by decide +kernel
theorem dX10_mix_5 : decode cX10_mix 5 = .ok (.getfield 201, 3) := by decide +kernel
theorem dX10_mix_8 : decode cX10_mix 8 = .ok (.lmul, 1) := by decide +kernel
theorem dX10_mix_9 : decode cX10_mix 9 = .ok (.lload_n 1, 1) := by decide +kernel
theorem dX10_mix_10 : decode cX10_mix 10 = .ok (.ladd, 1) := by decide +kernel
theorem dX10_mix_11 : decode cX10_mix 11 = .ok (.putfield 201, 3) := by decide +kernel
theorem dX10_mix_14 : decode cX10_mix 14 = .ok (.return_, 1) := by decide +kernel
set_option maxRecDepth 20000 in
theorem ggX10_mixes_X10_mix : GoodIn wsX10_mixes wsX10_mix := goodIn_r _ [6, 7, 8, 9, 10, 11, 12, 13] (by decide +kernel) (by decide +kernel)
set_option maxRecDepth 20000 in
theorem gX10_mixes_X10_mix : GoodIn wsX10_mixes (wsV RX10 205 RX10 yX10_mix wsX10_mix) := goodIn_app (goodIn_of _ (by decide +kernel)) ggX10_mixes_X10_mix
theorem dX10_mixes_0 : decode cX10_mixes 0 = .ok (.iload_n 1, 1) := by decide +kernel
theorem dX10_mixes_1 : decode cX10_mixes 1 = .ok (.istore 4, 2) := by decide +kernel
theorem dX10_mixes_3 : decode cX10_mixes 3 = .ok (.iload 4, 2) := by decide +kernel
theorem dX10_mixes_5 : decode cX10_mixes 5 = .ok (.i2l, 1) := by decide +kernel
theorem dX10_mixes_6 : decode cX10_mixes 6 = .ok (.iload_n 1, 1) := by decide +kernel
theorem dX10_mixes_7 : decode cX10_mixes 7 = .ok (.i2l, 1) := by decide +kernel
theorem dX10_mixes_8 : decode cX10_mixes 8 = .ok (.lload_n 2, 1) := by decide +kernel
theorem dX10_mixes_9 : decode cX10_mixes 9 = .ok (.ladd, 1) := by decide +kernel
theorem dX10_mixes_10 : decode cX10_mixes 10 = .ok (.lcmp, 1) := by decide +kernel
theorem dX10_mixes_11 : decode cX10_mixes 11 = .ok (.ifCond .ge 20, 3) := by decide +kernel
theorem dX10_mixes_14 : decode cX10_mixes 14 = .ok (.aload_n 0, 1) := by decide +kernel
theorem dX10_mixes_15 : decode cX10_mixes 15 = .ok (.aload_n 0, 1) := by decide +kernel
theorem dX10_mixes_16 : decode cX10_mixes 16 = .ok (.getfield 7, 3) := by decide +kernel
theorem dX10_mixes_19 : decode cX10_mixes 19 = .ok (.iload 4, 2) := by decide +kernel
theorem dX10_mixes_21 : decode cX10_mixes 21 = .ok (.laload, 1) := by decide +kernel
theorem dX10_mixes_22 : decode cX10_mixes 22 = .ok (.invokevirtual 205, 3) := by decide +kernel
theorem dX10_mixes_25 : decode cX10_mixes 25 = .ok (.iinc 4 1, 3) := by decide +kernel
theorem dX10_mixes_28 : decode cX10_mixes 28 = .ok (.goto (-25), 3) := by decide +kernel
theorem dX10_mixes_31 : decode cX10_mixes 31 = .ok (.return_, 1) := by decide +kernel
set_option maxRecDepth 20000 in
theorem ggX10_digest_X10_mix : GoodIn wsX10_digest wsX10_mix := goodIn_r _ [16, 17, 3, 43, 44, 45, 46, 47] (by decide +kernel) (by decide +kernel)
set_option maxRecDepth 20000 in
theorem gX10_digest_X10_mix : GoodIn wsX10_digest (wsV RX10 205 RX10 yX10_mix wsX10_mix) := goodIn_app (goodIn_of _ (by decide +kernel)) ggX10_digest_X10_mix
set_option maxRecDepth 20000 in
theorem ggX10_digest_X10_mixes : GoodIn wsX10_digest wsX10_mixes := goodIn_r _ [21, 6, 12, 13, 14, 15, 16, 17, 3, 43, 44, 45, 46, 47] (by decide +kernel) (by decide +kernel)
set_option maxRecDepth 20000 in
theorem gX10_digest_X10_mixes : GoodIn wsX10_digest (wsV RX10 213 RX10 yX10_mixes wsX10_mixes) := goodIn_app (goodIn_of _ (by decide +kernel)) ggX10_digest_X10_mixes
set_option maxRecDepth 20000 in
theorem ggX10_digest_X10_densityNow : GoodIn wsX10_digest wsX10_densityNow := goodIn_r _ [25, 6, 26, 27, 28, 15, 29, 30, 31, 32, 33, 34, 35, 36, 37, 38, 43, 44, 45, 46, 47] (by decide +kernel) (by decide +kernel)
set_option maxRecDepth 20000 in
theorem gX10_digest_X10_densityNow : GoodIn wsX10_digest (wsV RX10 187 RX10 yX10_densityNow wsX10_densityNow) := goodIn_app (goodIn_of _ (by decide +kernel)) ggX10_digest_X10_densityNow
set_option maxRecDepth 20000 in
theorem ggX10_digest_X10_totalOf : GoodIn wsX10_digest wsX10_totalOf := goodIn_r _ [42, 6, 43, 44, 45, 46, 47] (by decide +kernel) (by decide +kernel)
set_option maxRecDepth 20000 in
theorem gX10_digest_X10_totalOf : GoodIn wsX10_digest (wsV RX10 190 RX10 yX10_totalOf wsX10_totalOf) := goodIn_app (goodIn_of _ (by decide +kernel)) ggX10_digest_X10_totalOf
theorem dX10_digest_0 : decode cX10_digest 0 = .ok (.aload_n 0, 1) := by decide +kernel
theorem dX10_digest_1 : decode cX10_digest 1 = .ok (.iconst 0, 1) := by decide +kernel
theorem dX10_digest_2 : decode cX10_digest 2 = .ok (.putfield 30, 3) := by decide +kernel
theorem dX10_digest_5 : decode cX10_digest 5 = .ok (.aload_n 0, 1) := by decide +kernel
theorem dX10_digest_6 : decode cX10_digest 6 = .ok (.ldc2_w 209, 3) := by decide +kernel
theorem dX10_digest_9 : decode cX10_digest 9 = .ok (.putfield 201, 3) := by decide +kernel
theorem dX10_digest_12 : decode cX10_digest 12 = .ok (.aload_n 0, 1) := by decide +kernel
theorem dX10_digest_13 : decode cX10_digest 13 = .ok (.aload_n 0, 1) := by decide +kernel
theorem dX10_digest_14 : decode cX10_digest 14 = .ok (.getfield 34, 3) := by decide +kernel
theorem dX10_digest_17 : decode cX10_digest 17 = .ok (.i2l, 1) := by decide +kernel
theorem dX10_digest_18 : decode cX10_digest 18 = .ok (.invokevirtual 205, 3) := by decide +kernel
theorem dX10_digest_21 : decode cX10_digest 21 = .ok (.aload_n 0, 1) := by decide +kernel
theorem dX10_digest_22 : decode cX10_digest 22 = .ok (.iconst 0, 1) := by decide +kernel
theorem dX10_digest_23 : decode cX10_digest 23 = .ok (.ldc2_w 211, 3) := by decide +kernel
theorem dX10_digest_26 : decode cX10_digest 26 = .ok (.invokevirtual 213, 3) := by decide +kernel
theorem dX10_digest_29 : decode cX10_digest 29 = .ok (.iconst 0, 1) := by decide +kernel
theorem dX10_digest_30 : decode cX10_digest 30 = .ok (.istore_n 1, 1) := by decide +kernel
theorem dX10_digest_31 : decode cX10_digest 31 = .ok (.iload_n 1, 1) := by decide +kernel
theorem dX10_digest_32 : decode cX10_digest 32 = .ok (.iconst 4, 1) := by decide +kernel
theorem dX10_digest_33 : decode cX10_digest 33 = .ok (.if_icmp .ge 61, 3) := by decide +kernel
theorem dX10_digest_36 : decode cX10_digest 36 = .ok (.aload_n 0, 1) := by decide +kernel
theorem dX10_digest_37 : decode cX10_digest 37 = .ok (.aload_n 0, 1) := by decide +kernel
theorem dX10_digest_38 : decode cX10_digest 38 = .ok (.getfield 7, 3) := by decide +kernel
theorem dX10_digest_41 : decode cX10_digest 41 = .ok (.bipush 6, 2) := by decide +kernel
theorem dX10_digest_43 : decode cX10_digest 43 = .ok (.iload_n 1, 1) := by decide +kernel
theorem dX10_digest_44 : decode cX10_digest 44 = .ok (.iadd, 1) := by decide +kernel
theorem dX10_digest_45 : decode cX10_digest 45 = .ok (.laload, 1) := by decide +kernel
theorem dX10_digest_46 : decode cX10_digest 46 = .ok (.invokevirtual 205, 3) := by decide +kernel
theorem dX10_digest_49 : decode cX10_digest 49 = .ok (.aload_n 0, 1) := by decide +kernel
theorem dX10_digest_50 : decode cX10_digest 50 = .ok (.aload_n 0, 1) := by decide +kernel
theorem dX10_digest_51 : decode cX10_digest 51 = .ok (.getfield 7, 3) := by decide +kernel
theorem dX10_digest_54 : decode cX10_digest 54 = .ok (.bipush 10, 2) := by decide +kernel
theorem dX10_digest_56 : decode cX10_digest 56 = .ok (.iload_n 1, 1) := by decide +kernel
theorem dX10_digest_57 : decode cX10_digest 57 = .ok (.iadd, 1) := by decide +kernel
theorem dX10_digest_58 : decode cX10_digest 58 = .ok (.laload, 1) := by decide +kernel
theorem dX10_digest_59 : decode cX10_digest 59 = .ok (.invokevirtual 205, 3) := by decide +kernel
theorem dX10_digest_62 : decode cX10_digest 62 = .ok (.aload_n 0, 1) := by decide +kernel
theorem dX10_digest_63 : decode cX10_digest 63 = .ok (.aload_n 0, 1) := by decide +kernel
theorem dX10_digest_64 : decode cX10_digest 64 = .ok (.getfield 7, 3) := by decide +kernel
theorem dX10_digest_67 : decode cX10_digest 67 = .ok (.bipush 14, 2) := by decide +kernel
theorem dX10_digest_69 : decode cX10_digest 69 = .ok (.iload_n 1, 1) := by decide +kernel
theorem dX10_digest_70 : decode cX10_digest 70 = .ok (.iadd, 1) := by decide +kernel
theorem dX10_digest_71 : decode cX10_digest 71 = .ok (.laload, 1) := by decide +kernel
theorem dX10_digest_72 : decode cX10_digest 72 = .ok (.invokevirtual 205, 3) := by decide +kernel
theorem dX10_digest_75 : decode cX10_digest 75 = .ok (.aload_n 0, 1) := by decide +kernel
theorem dX10_digest_76 : decode cX10_digest 76 = .ok (.aload_n 0, 1) := by decide +kernel
theorem dX10_digest_77 : decode cX10_digest 77 = .ok (.getfield 7, 3) := by decide +kernel
theorem dX10_digest_80 : decode cX10_digest 80 = .ok (.bipush 18, 2) := by decide +kernel
theorem dX10_digest_82 : decode cX10_digest 82 = .ok (.iload_n 1, 1) := by decide +kernel
theorem dX10_digest_83 : decode cX10_digest 83 = .ok (.iadd, 1) := by decide +kernel
theorem dX10_digest_84 : decode cX10_digest 84 = .ok (.laload, 1) := by decide +kernel
theorem dX10_digest_85 : decode cX10_digest 85 = .ok (.invokevirtual 205, 3) := by decide +kernel
theorem dX10_digest_88 : decode cX10_digest 88 = .ok (.iinc 1 1, 3) := by decide +kernel
theorem dX10_digest_91 : decode cX10_digest 91 = .ok (.goto (-60), 3) := by decide +kernel
theorem dX10_digest_94 : decode cX10_digest 94 = .ok (.aload_n 0, 1) := by decide +kernel
theorem dX10_digest_95 : decode cX10_digest 95 = .ok (.bipush 26, 2) := by decide +kernel
theorem dX10_digest_97 : decode cX10_digest 97 = .ok (.ldc2_w 146, 3) := by decide +kernel
theorem dX10_digest_100 : decode cX10_digest 100 = .ok (.invokevirtual 213, 3) := by decide +kernel
theorem dX10_digest_103 : decode cX10_digest 103 = .ok (.aload_n 0, 1) := by decide +kernel
theorem dX10_digest_104 : decode cX10_digest 104 = .ok (.bipush 37, 2) := by decide +kernel
theorem dX10_digest_106 : decode cX10_digest 106 = .ok (.ldc2_w 48, 3) := by decide +kernel
theorem dX10_digest_109 : decode cX10_digest 109 = .ok (.invokevirtual 213, 3) := by decide +kernel
theorem dX10_digest_112 : decode cX10_digest 112 = .ok (.aload_n 0, 1) := by decide +kernel
theorem dX10_digest_113 : decode cX10_digest 113 = .ok (.aload_n 0, 1) := by decide +kernel
theorem dX10_digest_114 : decode cX10_digest 114 = .ok (.invokevirtual 187, 3) := by decide +kernel
theorem dX10_digest_117 : decode cX10_digest 117 = .ok (.invokevirtual 205, 3) := by decide +kernel
theorem dX10_digest_120 : decode cX10_digest 120 = .ok (.aload_n 0, 1) := by decide +kernel
theorem dX10_digest_121 : decode cX10_digest 121 = .ok (.bipush 40, 2) := by decide +kernel
theorem dX10_digest_123 : decode cX10_digest 123 = .ok (.ldc2_w 114, 3) := by decide +kernel
theorem dX10_digest_126 : decode cX10_digest 126 = .ok (.invokevirtual 213, 3) := by decide +kernel
theorem dX10_digest_129 : decode cX10_digest 129 = .ok (.iconst 0, 1) := by decide +kernel
theorem dX10_digest_130 : decode cX10_digest 130 = .ok (.istore_n 1, 1) := by decide +kernel
theorem dX10_digest_131 : decode cX10_digest 131 = .ok (.iload_n 1, 1) := by decide +kernel
theorem dX10_digest_132 : decode cX10_digest 132 = .ok (.iconst 4, 1) := by decide +kernel
theorem dX10_digest_133 : decode cX10_digest 133 = .ok (.if_icmp .ge 18, 3) := by decide +kernel
theorem dX10_digest_136 : decode cX10_digest 136 = .ok (.aload_n 0, 1) := by decide +kernel
theorem dX10_digest_137 : decode cX10_digest 137 = .ok (.aload_n 0, 1) := by decide +kernel
theorem dX10_digest_138 : decode cX10_digest 138 = .ok (.iload_n 1, 1) := by decide +kernel
theorem dX10_digest_139 : decode cX10_digest 139 = .ok (.invokevirtual 190, 3) := by decide +kernel
theorem dX10_digest_142 : decode cX10_digest 142 = .ok (.invokevirtual 205, 3) := by decide +kernel
theorem dX10_digest_145 : decode cX10_digest 145 = .ok (.iinc 1 1, 3) := by decide +kernel
theorem dX10_digest_148 : decode cX10_digest 148 = .ok (.goto (-17), 3) := by decide +kernel
theorem dX10_digest_151 : decode cX10_digest 151 = .ok (.aload_n 0, 1) := by decide +kernel
theorem dX10_digest_152 : decode cX10_digest 152 = .ok (.aload_n 0, 1) := by decide +kernel
theorem dX10_digest_153 : decode cX10_digest 153 = .ok (.getfield 7, 3) := by decide +kernel
theorem dX10_digest_156 : decode cX10_digest 156 = .ok (.bipush 49, 2) := by decide +kernel
theorem dX10_digest_158 : decode cX10_digest 158 = .ok (.laload, 1) := by decide +kernel
theorem dX10_digest_159 : decode cX10_digest 159 = .ok (.invokevirtual 205, 3) := by decide +kernel
theorem dX10_digest_162 : decode cX10_digest 162 = .ok (.aload_n 0, 1) := by decide +kernel
theorem dX10_digest_163 : decode cX10_digest 163 = .ok (.bipush 63, 2) := by decide +kernel
theorem dX10_digest_165 : decode cX10_digest 165 = .ok (.lconst 1, 1) := by decide +kernel
theorem dX10_digest_166 : decode cX10_digest 166 = .ok (.ldc2_w 216, 3) := by decide +kernel
theorem dX10_digest_169 : decode cX10_digest 169 = .ok (.aload_n 0, 1) := by decide +kernel
theorem dX10_digest_170 : decode cX10_digest 170 = .ok (.getfield 7, 3) := by decide +kernel
theorem dX10_digest_173 : decode cX10_digest 173 = .ok (.bipush 63, 2) := by decide +kernel
theorem dX10_digest_175 : decode cX10_digest 175 = .ok (.laload, 1) := by decide +kernel
theorem dX10_digest_176 : decode cX10_digest 176 = .ok (.lmul, 1) := by decide +kernel
theorem dX10_digest_177 : decode cX10_digest 177 = .ok (.ladd, 1) := by decide +kernel
theorem dX10_digest_178 : decode cX10_digest 178 = .ok (.invokevirtual 213, 3) := by decide +kernel
theorem dX10_digest_181 : decode cX10_digest 181 = .ok (.aload_n 0, 1) := by decide +kernel
theorem dX10_digest_182 : decode cX10_digest 182 = .ok (.sipush 232, 3) := by decide +kernel
theorem dX10_digest_185 : decode cX10_digest 185 = .ok (.lconst 1, 1) := by decide +kernel
theorem dX10_digest_186 : decode cX10_digest 186 = .ok (.ldc2_w 76, 3) := by decide +kernel
theorem dX10_digest_189 : decode cX10_digest 189 = .ok (.aload_n 0, 1) := by decide +kernel
theorem dX10_digest_190 : decode cX10_digest 190 = .ok (.getfield 7, 3) := by decide +kernel
theorem dX10_digest_193 : decode cX10_digest 193 = .ok (.sipush 232, 3) := by decide +kernel
theorem dX10_digest_196 : decode cX10_digest 196 = .ok (.laload, 1) := by decide +kernel
theorem dX10_digest_197 : decode cX10_digest 197 = .ok (.lmul, 1) := by decide +kernel
theorem dX10_digest_198 : decode cX10_digest 198 = .ok (.ladd, 1) := by decide +kernel
theorem dX10_digest_199 : decode cX10_digest 199 = .ok (.invokevirtual 213, 3) := by decide +kernel
theorem dX10_digest_202 : decode cX10_digest 202 = .ok (.aload_n 0, 1) := by decide +kernel
theorem dX10_digest_203 : decode cX10_digest 203 = .ok (.sipush 253, 3) := by decide +kernel
theorem dX10_digest_206 : decode cX10_digest 206 = .ok (.lconst 1, 1) := by decide +kernel
theorem dX10_digest_207 : decode cX10_digest 207 = .ok (.ldc2_w 48, 3) := by decide +kernel
theorem dX10_digest_210 : decode cX10_digest 210 = .ok (.aload_n 0, 1) := by decide +kernel
theorem dX10_digest_211 : decode cX10_digest 211 = .ok (.getfield 7, 3) := by decide +kernel
theorem dX10_digest_214 : decode cX10_digest 214 = .ok (.sipush 253, 3) := by decide +kernel
theorem dX10_digest_217 : decode cX10_digest 217 = .ok (.laload, 1) := by decide +kernel
theorem dX10_digest_218 : decode cX10_digest 218 = .ok (.lmul, 1) := by decide +kernel
theorem dX10_digest_219 : decode cX10_digest 219 = .ok (.ladd, 1) := by decide +kernel
theorem dX10_digest_220 : decode cX10_digest 220 = .ok (.invokevirtual 213, 3) := by decide +kernel
theorem dX10_digest_223 : decode cX10_digest 223 = .ok (.aload_n 0, 1) := by decide +kernel
theorem dX10_digest_224 : decode cX10_digest 224 = .ok (.getfield 201, 3) := by decide +kernel
theorem dX10_digest_227 : decode cX10_digest 227 = .ok (.lreturn, 1) := by decide +kernel
theorem dJ9_floorDiv_7cf53_0 : decode cJ9_floorDiv_7cf53 0 = .ok (.iload_n 0, 1) := by decide +kernel
theorem dJ9_floorDiv_7cf53_1 : decode cJ9_floorDiv_7cf53 1 = .ok (.iload_n 1, 1) := by decide +kernel
theorem dJ9_floorDiv_7cf53_2 : decode cJ9_floorDiv_7cf53 2 = .ok (.idiv, 1) := by decide +kernel
theorem dJ9_floorDiv_7cf53_3 : decode cJ9_floorDiv_7cf53 3 = .ok (.istore_n 2, 1) := by decide +kernel
theorem dJ9_floorDiv_7cf53_4 : decode cJ9_floorDiv_7cf53 4 = .ok (.iload_n 0, 1) := by decide +kernel
theorem dJ9_floorDiv_7cf53_5 : decode cJ9_floorDiv_7cf53 5 = .ok (.iload_n 1, 1) := by decide +kernel
theorem dJ9_floorDiv_7cf53_6 : decode cJ9_floorDiv_7cf53 6 = .ok (.ixor, 1) := by decide +kernel
theorem dJ9_floorDiv_7cf53_7 : decode cJ9_floorDiv_7cf53 7 = .ok (.ifCond .ge 14, 3) := by decide +kernel
theorem dJ9_floorDiv_7cf53_10 : decode cJ9_floorDiv_7cf53 10 = .ok (.iload_n 2, 1) := by decide +kernel
theorem dJ9_floorDiv_7cf53_11 : decode cJ9_floorDiv_7cf53 11 = .ok (.iload_n 1, 1) := by decide +kernel
theorem dJ9_floorDiv_7cf53_12 : decode cJ9_floorDiv_7cf53 12 = .ok (.imul, 1) := by decide +kernel
theorem dJ9_floorDiv_7cf53_13 : decode cJ9_floorDiv_7cf53 13 = .ok (.iload_n 0, 1) := by decide +kernel
theorem dJ9_floorDiv_7cf53_14 : decode cJ9_floorDiv_7cf53 14 = .ok (.if_icmp .eq 7, 3) := by decide +kernel
theorem dJ9_floorDiv_7cf53_17 : decode cJ9_floorDiv_7cf53 17 = .ok (.iload_n 2, 1) := by decide +kernel
theorem dJ9_floorDiv_7cf53_18 : decode cJ9_floorDiv_7cf53 18 = .ok (.iconst 1, 1) := by decide +kernel
theorem dJ9_floorDiv_7cf53_19 : decode cJ9_floorDiv_7cf53 19 = .ok (.isub, 1) := by decide +kernel
theorem dJ9_floorDiv_7cf53_20 : decode cJ9_floorDiv_7cf53 20 = .ok (.ireturn, 1) := by decide +kernel
theorem dJ9_floorDiv_7cf53_21 : decode cJ9_floorDiv_7cf53 21 = .ok (.iload_n 2, 1) := by decide +kernel
theorem dJ9_floorDiv_7cf53_22 : decode cJ9_floorDiv_7cf53 22 = .ok (.ireturn, 1) := by decide +kernel
theorem dJ9_floorDiv_f86c9_0 : decode cJ9_floorDiv_f86c9 0 = .ok (.lload_n 0, 1) := by decide +kernel
theorem dJ9_floorDiv_f86c9_1 : decode cJ9_floorDiv_f86c9 1 = .ok (.lload_n 2, 1) := by decide +kernel
theorem dJ9_floorDiv_f86c9_2 : decode cJ9_floorDiv_f86c9 2 = .ok (.ldiv, 1) := by decide +kernel
theorem dJ9_floorDiv_f86c9_3 : decode cJ9_floorDiv_f86c9 3 = .ok (.lstore 4, 2) := by decide +kernel
theorem dJ9_floorDiv_f86c9_5 : decode cJ9_floorDiv_f86c9 5 = .ok (.lload_n 0, 1) := by decide +kernel
theorem dJ9_floorDiv_f86c9_6 : decode cJ9_floorDiv_f86c9 6 = .ok (.lload_n 2, 1) := by decide +kernel
theorem dJ9_floorDiv_f86c9_7 : decode cJ9_floorDiv_f86c9 7 = .ok (.lxor, 1) := by decide +kernel
theorem dJ9_floorDiv_f86c9_8 : decode cJ9_floorDiv_f86c9 8 = .ok (.lconst 0, 1) := by decide +kernel
theorem dJ9_floorDiv_f86c9_9 : decode cJ9_floorDiv_f86c9 9 = .ok (.lcmp, 1) := by decide +kernel
theorem dJ9_floorDiv_f86c9_10 : decode cJ9_floorDiv_f86c9 10 = .ok (.ifCond .ge 17, 3) := by decide +kernel
theorem dJ9_floorDiv_f86c9_13 : decode cJ9_floorDiv_f86c9 13 = .ok (.lload 4, 2) := by decide +kernel
theorem dJ9_floorDiv_f86c9_15 : decode cJ9_floorDiv_f86c9 15 = .ok (.lload_n 2, 1) := by decide +kernel
theorem dJ9_floorDiv_f86c9_16 : decode cJ9_floorDiv_f86c9 16 = .ok (.lmul, 1) := by decide +kernel
theorem dJ9_floorDiv_f86c9_17 : decode cJ9_floorDiv_f86c9 17 = .ok (.lload_n 0, 1) := by decide +kernel
theorem dJ9_floorDiv_f86c9_18 : decode cJ9_floorDiv_f86c9 18 = .ok (.lcmp, 1) := by decide +kernel
theorem dJ9_floorDiv_f86c9_19 : decode cJ9_floorDiv_f86c9 19 = .ok (.ifCond .eq 8, 3) := by decide +kernel
theorem dJ9_floorDiv_f86c9_22 : decode cJ9_floorDiv_f86c9 22 = .ok (.lload 4, 2) := by decide +kernel
theorem dJ9_floorDiv_f86c9_24 : decode cJ9_floorDiv_f86c9 24 = .ok (.lconst 1, 1) := by decide +kernel
theorem dJ9_floorDiv_f86c9_25 : decode cJ9_floorDiv_f86c9 25 = .ok (.lsub, 1) := by decide +kernel
theorem dJ9_floorDiv_f86c9_26 : decode cJ9_floorDiv_f86c9 26 = .ok (.lreturn, 1) := by decide +kernel
theorem dJ9_floorDiv_f86c9_27 : decode cJ9_floorDiv_f86c9 27 = .ok (.lload 4, 2) := by decide +kernel
theorem dJ9_floorDiv_f86c9_29 : decode cJ9_floorDiv_f86c9 29 = .ok (.lreturn, 1) := by decide +kernel
theorem dJ9_max_7cf53_0 : decode cJ9_max_7cf53 0 = .ok (.iload_n 0, 1) := by decide +kernel
theorem dJ9_max_7cf53_1 : decode cJ9_max_7cf53 1 = .ok (.iload_n 1, 1) := by decide +kernel
theorem dJ9_max_7cf53_2 : decode cJ9_max_7cf53 2 = .ok (.if_icmp .lt 7, 3) := by decide +kernel
theorem dJ9_max_7cf53_5 : decode cJ9_max_7cf53 5 = .ok (.iload_n 0, 1) := by decide +kernel
theorem dJ9_max_7cf53_6 : decode cJ9_max_7cf53 6 = .ok (.goto 4, 3) := by decide +kernel
theorem dJ9_max_7cf53_9 : decode cJ9_max_7cf53 9 = .ok (.iload_n 1, 1) := by decide +kernel
theorem dJ9_max_7cf53_10 : decode cJ9_max_7cf53 10 = .ok (.ireturn, 1) := by decide +kernel
theorem dJ9_max_f86c9_0 : decode cJ9_max_f86c9 0 = .ok (.lload_n 0, 1) := by decide +kernel
theorem dJ9_max_f86c9_1 : decode cJ9_max_f86c9 1 = .ok (.lload_n 2, 1) := by decide +kernel
theorem dJ9_max_f86c9_2 : decode cJ9_max_f86c9 2 = .ok (.lcmp, 1) := by decide +kernel
theorem dJ9_max_f86c9_3 : decode cJ9_max_f86c9 3 = .ok (.ifCond .lt 7, 3) := by decide +kernel
theorem dJ9_max_f86c9_6 : decode cJ9_max_f86c9 6 = .ok (.lload_n 0, 1) := by decide +kernel
theorem dJ9_max_f86c9_7 : decode cJ9_max_f86c9 7 = .ok (.goto 4, 3) := by decide +kernel
theorem dJ9_max_f86c9_10 : decode cJ9_max_f86c9 10 = .ok (.lload_n 2, 1) := by decide +kernel
theorem dJ9_max_f86c9_11 : decode cJ9_max_f86c9 11 = .ok (.lreturn, 1) := by decide +kernel
theorem dJ9_min_7cf53_0 : decode cJ9_min_7cf53 0 = .ok (.iload_n 0, 1) := by decide +kernel
theorem dJ9_min_7cf53_1 : decode cJ9_min_7cf53 1 = .ok (.iload_n 1, 1) := by decide +kernel
theorem dJ9_min_7cf53_2 : decode cJ9_min_7cf53 2 = .ok (.if_icmp .gt 7, 3) := by decide +kernel
theorem dJ9_min_7cf53_5 : decode cJ9_min_7cf53 5 = .ok (.iload_n 0, 1) := by decide +kernel
theorem dJ9_min_7cf53_6 : decode cJ9_min_7cf53 6 = .ok (.goto 4, 3) := by decide +kernel
theorem dJ9_min_7cf53_9 : decode cJ9_min_7cf53 9 = .ok (.iload_n 1, 1) := by decide +kernel
theorem dJ9_min_7cf53_10 : decode cJ9_min_7cf53 10 = .ok (.ireturn, 1) := by decide +kernel
set_option maxRecDepth 20000 in
theorem ggL_setSpan_X9_setSpan : GoodIn wsL_setSpan wsX9_setSpan := goodIn_ca (goodIn_ca (goodIn_r _ [7, 8, 9, 10, 11, 12, 13, 6, 14, 15, 16, 17, 18, 19, 20, 21, 22, 23, 24, 25, 26, 27, 28, 29, 30, 31, 32, 33, 34, 35, 36, 37, 38, 39, 40, 41, 42, 43, 44, 45, 46, 47, 48, 49, 50, 51, 52, 53, 54, 55, 56, 57, 58, 59, 60, 61, 62, 63, 64, 65, 66, 67, 68, 69, 70, 71, 72, 73, 74, 75, 76, 77, 78, 79, 80, 81, 82, 83, 84, 85, 86, 87, 88, 89, 90, 91, 92, 93, 94, 95, 96, 97, 98, 99, 100, 101, 102, 103, 104, 105, 106, 107, 108, 109, 110, 111, 112, 113, 114, 115, 116, 117, 118, 119, 120, 121, 122, 123, 124, 125, 126, 127, 128, 129, 130, 131, 132, 133, 134, 135, 136, 137, 138, 139, 140, 141, 142, 143, 144, 145, 146, 147, 148, 149, 150, 151, 152, 153, 154, 155, 156, 157, 158, 159, 160, 161, 162, 163, 164, 165, 166, 167, 168, 169, 170, 171, 172, 173, 174, 175, 176, 177, 178, 179, 180, 181, 182, 183, 184, 185, 186, 187, 188, 189, 190, 191, 192, 193, 194, 195, 196, 197, 198, 199, 200, 201, 202, 203, 204, 205, 206, 207, 208, 209, 210, 211, 212, 213, 214, 215, 216, 217, 218, 219, 220, 221] (by decide +kernel) (by decide +kernel)) (goodIn_sub (fun _ h => List.mem_cons_of_mem _ (List.mem_append_left _ (List.mem_append_right _ h))) (by decide +kernel))) (goodIn_sub (fun _ h => List.mem_cons_of_mem _ (List.mem_append_right _ h)) (by decide +kernel))
set_option maxRecDepth 20000 in
theorem gL_setSpan_X9_setSpan : GoodIn wsL_setSpan (wsV RL 7 RX9 yX9_setSpan wsX9_setSpan) := goodIn_app (goodIn_of _ (by decide +kernel)) ggL_setSpan_X9_setSpan
theorem dL_setSpan_0 : decode cL_setSpan 0 = .ok (.aload_n 3, 1) := by decide +kernel
theorem dL_setSpan_1 : decode cL_setSpan 1 = .ok (.iconst 0, 1) := by decide +kernel
theorem dL_setSpan_2 : decode cL_setSpan 2 = .ok (.aload_n 0, 1) := by decide +kernel
theorem dL_setSpan_3 : decode cL_setSpan 3 = .ok (.iload_n 1, 1) := by decide +kernel
theorem dL_setSpan_4 : decode cL_setSpan 4 = .ok (.iload_n 2, 1) := by decide +kernel
theorem dL_setSpan_5 : decode cL_setSpan 5 = .ok (.invokevirtual 7, 3) := by decide +kernel
theorem dL_setSpan_8 : decode cL_setSpan 8 = .ok (.i2l, 1) := by decide +kernel
theorem dL_setSpan_9 : decode cL_setSpan 9 = .ok (.lastore, 1) := by decide +kernel
theorem dL_setSpan_10 : decode cL_setSpan 10 = .ok (.goto 11, 3) := by decide +kernel
theorem dL_setSpan_13 : decode cL_setSpan 13 = .ok (.astore 4, 2) := by decide +kernel
theorem dL_setSpan_15 : decode cL_setSpan 15 = .ok (.iconst 1, 1) := by decide +kernel
theorem dL_setSpan_16 : decode cL_setSpan 16 = .ok (.ireturn, 1) := by decide +kernel
theorem dL_setSpan_17 : decode cL_setSpan 17 = .ok (.astore 4, 2) := by decide +kernel
theorem dL_setSpan_19 : decode cL_setSpan 19 = .ok (.iconst 2, 1) := by decide +kernel
theorem dL_setSpan_20 : decode cL_setSpan 20 = .ok (.ireturn, 1) := by decide +kernel
theorem dL_setSpan_21 : decode cL_setSpan 21 = .ok (.iconst 0, 1) := by decide +kernel
theorem dL_setSpan_22 : decode cL_setSpan 22 = .ok (.ireturn, 1) := by decide +kernel
set_option maxRecDepth 20000 in
theorem ggL_setDamping_X9_setDamping : GoodIn wsL_setDamping wsX9_setDamping := goodIn_ca (goodIn_ca (goodIn_r _ [7, 8, 9, 10, 11, 12, 6, 13, 14, 15, 16, 17, 18, 19, 20, 21, 22, 23, 24, 25, 26, 27, 28, 29, 30, 31, 32, 33, 34, 35, 36, 37, 38, 39, 40, 41, 42, 43, 44, 45, 46, 47, 48, 49, 50, 51, 52, 53, 54, 55, 56, 57, 58, 59, 60, 61, 62, 63, 64, 65, 66, 67, 68, 69, 70, 71, 72, 73, 74, 75, 76, 77, 78, 79, 80, 81, 82, 83, 84, 85, 86, 87, 88, 89, 90, 91, 92, 93, 94, 95, 96, 97, 98, 99, 100, 101, 102, 103, 104, 105, 106, 107, 108, 109, 110, 111, 112, 113, 114, 115, 116, 117, 118, 119, 120, 121, 122, 123, 124, 125, 126, 127, 128, 129, 130, 131, 132, 133, 134, 135, 136, 137, 138, 139, 140, 141, 142, 143, 144, 145, 146, 147, 148, 149, 150, 151, 152, 153, 154, 155, 156, 157, 158, 159, 160, 161, 162, 163, 164, 165, 166, 167, 168, 169, 170, 171, 172, 173, 174, 175, 176, 177, 178, 179, 180, 181, 182, 183, 184, 185, 186, 187, 188, 189, 190, 191, 192, 193, 194, 195, 196, 197, 198, 199, 200, 201, 202, 203, 204, 205, 206, 207, 208, 209, 210, 211, 212, 213, 214, 215, 216, 217, 218, 219, 220] (by decide +kernel) (by decide +kernel)) (goodIn_sub (fun _ h => List.mem_cons_of_mem _ (List.mem_append_left _ (List.mem_append_right _ h))) (by decide +kernel))) (goodIn_sub (fun _ h => List.mem_cons_of_mem _ (List.mem_append_right _ h)) (by decide +kernel))
set_option maxRecDepth 20000 in
theorem gL_setDamping_X9_setDamping : GoodIn wsL_setDamping (wsV RL 17 RX9 yX9_setDamping wsX9_setDamping) := goodIn_app (goodIn_of _ (by decide +kernel)) ggL_setDamping_X9_setDamping
theorem dL_setDamping_0 : decode cL_setDamping 0 = .ok (.aload_n 3, 1) := by decide +kernel
theorem dL_setDamping_1 : decode cL_setDamping 1 = .ok (.iconst 0, 1) := by decide +kernel
theorem dL_setDamping_2 : decode cL_setDamping 2 = .ok (.aload_n 0, 1) := by decide +kernel
theorem dL_setDamping_3 : decode cL_setDamping 3 = .ok (.iload_n 1, 1) := by decide +kernel
theorem dL_setDamping_4 : decode cL_setDamping 4 = .ok (.iload_n 2, 1) := by decide +kernel
theorem dL_setDamping_5 : decode cL_setDamping 5 = .ok (.invokevirtual 17, 3) := by decide +kernel
theorem dL_setDamping_8 : decode cL_setDamping 8 = .ok (.i2l, 1) := by decide +kernel
theorem dL_setDamping_9 : decode cL_setDamping 9 = .ok (.lastore, 1) := by decide +kernel
theorem dL_setDamping_10 : decode cL_setDamping 10 = .ok (.goto 11, 3) := by decide +kernel
theorem dL_setDamping_13 : decode cL_setDamping 13 = .ok (.astore 4, 2) := by decide +kernel
theorem dL_setDamping_15 : decode cL_setDamping 15 = .ok (.iconst 1, 1) := by decide +kernel
theorem dL_setDamping_16 : decode cL_setDamping 16 = .ok (.ireturn, 1) := by decide +kernel
theorem dL_setDamping_17 : decode cL_setDamping 17 = .ok (.astore 4, 2) := by decide +kernel
theorem dL_setDamping_19 : decode cL_setDamping 19 = .ok (.iconst 2, 1) := by decide +kernel
theorem dL_setDamping_20 : decode cL_setDamping 20 = .ok (.ireturn, 1) := by decide +kernel
theorem dL_setDamping_21 : decode cL_setDamping 21 = .ok (.iconst 0, 1) := by decide +kernel
theorem dL_setDamping_22 : decode cL_setDamping 22 = .ok (.ireturn, 1) := by decide +kernel
set_option maxRecDepth 20000 in
theorem ggL_setMode_X9_setMode : GoodIn wsL_setMode wsX9_setMode := goodIn_ca (goodIn_r _ [6, 7, 8, 9, 10, 11, 5, 12, 13, 14, 15, 16, 17, 18, 19, 20, 21, 22, 23, 24, 25, 26, 27, 28, 29, 30, 31, 32, 33, 34, 35, 36, 37, 38, 39, 40, 41, 42, 43, 44, 45, 46, 47, 48, 49, 50, 51, 52, 53, 54, 55, 56, 57, 58, 59, 60, 61, 62, 63, 64, 65, 66, 67, 68, 69, 70, 71, 72, 73, 74, 75, 76, 77, 78, 79, 80, 81, 82, 83, 84, 85, 86, 87, 88, 89, 90, 91, 92, 93, 94, 95, 96, 97, 98, 99, 100, 101, 102, 103, 104, 105, 106, 107, 108, 109, 110, 111, 112, 113, 114, 115, 116, 117, 118, 119, 120, 121, 122, 123, 124, 125, 126, 127, 128, 129, 130, 131, 132, 133, 134, 135, 136, 137, 138, 139, 140, 141, 142, 143, 144, 145, 146, 147, 148, 149, 150, 151, 152, 153, 154, 155, 156, 157, 158, 159, 160, 161, 162, 163, 164, 165, 166, 167, 168, 169, 170, 171, 172, 173, 174, 175, 176, 177, 178, 179, 180, 181, 182, 183, 184, 185, 186, 187, 188, 189, 190, 191, 192, 193, 194, 195, 196, 197, 198, 199, 200, 201, 202, 203, 204, 205, 206, 207, 208, 209, 210] (by decide +kernel) (by decide +kernel)) (goodIn_sub (fun _ h => List.mem_cons_of_mem _ (List.mem_append_right _ h)) (by decide +kernel))
set_option maxRecDepth 20000 in
theorem gL_setMode_X9_setMode : GoodIn wsL_setMode (wsV RL 20 RX9 yX9_setMode wsX9_setMode) := goodIn_app (goodIn_of _ (by decide +kernel)) ggL_setMode_X9_setMode
theorem dL_setMode_0 : decode cL_setMode 0 = .ok (.aload_n 2, 1) := by decide +kernel
theorem dL_setMode_1 : decode cL_setMode 1 = .ok (.iconst 0, 1) := by decide +kernel
theorem dL_setMode_2 : decode cL_setMode 2 = .ok (.aload_n 0, 1) := by decide +kernel
theorem dL_setMode_3 : decode cL_setMode 3 = .ok (.iload_n 1, 1) := by decide +kernel
theorem dL_setMode_4 : decode cL_setMode 4 = .ok (.invokevirtual 20, 3) := by decide +kernel
theorem dL_setMode_7 : decode cL_setMode 7 = .ok (.i2l, 1) := by decide +kernel
theorem dL_setMode_8 : decode cL_setMode 8 = .ok (.lastore, 1) := by decide +kernel
theorem dL_setMode_9 : decode cL_setMode 9 = .ok (.goto 6, 3) := by decide +kernel
theorem dL_setMode_12 : decode cL_setMode 12 = .ok (.astore_n 3, 1) := by decide +kernel
theorem dL_setMode_13 : decode cL_setMode 13 = .ok (.iconst 1, 1) := by decide +kernel
theorem dL_setMode_14 : decode cL_setMode 14 = .ok (.ireturn, 1) := by decide +kernel
theorem dL_setMode_15 : decode cL_setMode 15 = .ok (.iconst 0, 1) := by decide +kernel
theorem dL_setMode_16 : decode cL_setMode 16 = .ok (.ireturn, 1) := by decide +kernel
set_option maxRecDepth 20000 in
theorem ggL_setDensity_X9_setDensity : GoodIn wsL_setDensity wsX9_setDensity := goodIn_ca (goodIn_ca (goodIn_r _ [7, 8, 9, 10, 11, 12, 13, 6, 14, 15, 16, 17, 18, 19, 20, 21, 22, 23, 24, 25, 26, 27, 28, 29, 30, 31, 32, 33, 34, 35, 36, 37, 38, 39, 40, 41, 42, 43, 44, 45, 46, 47, 48, 49, 50, 51, 52, 53, 54, 55, 56, 57, 58, 59, 60, 61, 62, 63, 64, 65, 66, 67, 68, 69, 70, 71, 72, 73, 74, 75, 76, 77, 78, 79, 80, 81, 82, 83, 84, 85, 86, 87, 88, 89, 90, 91, 92, 93, 94, 95, 96, 97, 98, 99, 100, 101, 102, 103, 104, 105, 106, 107, 108, 109, 110, 111, 112, 113, 114, 115, 116, 117, 118, 119, 120, 121, 122, 123, 124, 125, 126, 127, 128, 129, 130, 131, 132, 133, 134, 135, 136, 137, 138, 139, 140, 141, 142, 143, 144, 145, 146, 147, 148, 149, 150, 151, 152, 153, 154, 155, 156, 157, 158, 159, 160, 161, 162, 163, 164, 165, 166, 167, 168, 169, 170, 171, 172, 173, 174, 175, 176, 177, 178, 179, 180, 181, 182, 183, 184, 185, 186, 187, 188, 189, 190, 191, 192, 193, 194, 195, 196, 197, 198, 199, 200, 201, 202, 203, 204, 205, 206, 207, 208, 209, 210, 211, 212, 213, 214, 215, 216, 217] (by decide +kernel) (by decide +kernel)) (goodIn_sub (fun _ h => List.mem_cons_of_mem _ (List.mem_append_left _ (List.mem_append_right _ h))) (by decide +kernel))) (goodIn_sub (fun _ h => List.mem_cons_of_mem _ (List.mem_append_right _ h)) (by decide +kernel))
set_option maxRecDepth 20000 in
theorem gL_setDensity_X9_setDensity : GoodIn wsL_setDensity (wsV RL 24 RX9 yX9_setDensity wsX9_setDensity) := goodIn_app (goodIn_of _ (by decide +kernel)) ggL_setDensity_X9_setDensity
theorem dL_setDensity_0 : decode cL_setDensity 0 = .ok (.aload_n 3, 1) := by decide +kernel
theorem dL_setDensity_1 : decode cL_setDensity 1 = .ok (.iconst 0, 1) := by decide +kernel
theorem dL_setDensity_2 : decode cL_setDensity 2 = .ok (.aload_n 0, 1) := by decide +kernel
theorem dL_setDensity_3 : decode cL_setDensity 3 = .ok (.iload_n 1, 1) := by decide +kernel
theorem dL_setDensity_4 : decode cL_setDensity 4 = .ok (.iload_n 2, 1) := by decide +kernel
theorem dL_setDensity_5 : decode cL_setDensity 5 = .ok (.invokevirtual 24, 3) := by decide +kernel
theorem dL_setDensity_8 : decode cL_setDensity 8 = .ok (.i2l, 1) := by decide +kernel
theorem dL_setDensity_9 : decode cL_setDensity 9 = .ok (.lastore, 1) := by decide +kernel
theorem dL_setDensity_10 : decode cL_setDensity 10 = .ok (.goto 11, 3) := by decide +kernel
theorem dL_setDensity_13 : decode cL_setDensity 13 = .ok (.astore 4, 2) := by decide +kernel
theorem dL_setDensity_15 : decode cL_setDensity 15 = .ok (.iconst 1, 1) := by decide +kernel
theorem dL_setDensity_16 : decode cL_setDensity 16 = .ok (.ireturn, 1) := by decide +kernel
theorem dL_setDensity_17 : decode cL_setDensity 17 = .ok (.astore 4, 2) := by decide +kernel
theorem dL_setDensity_19 : decode cL_setDensity 19 = .ok (.iconst 2, 1) := by decide +kernel
theorem dL_setDensity_20 : decode cL_setDensity 20 = .ok (.ireturn, 1) := by decide +kernel
theorem dL_setDensity_21 : decode cL_setDensity 21 = .ok (.iconst 0, 1) := by decide +kernel
theorem dL_setDensity_22 : decode cL_setDensity 22 = .ok (.ireturn, 1) := by decide +kernel
set_option maxRecDepth 20000 in
theorem ggL_setFactor_X9_setFactor : GoodIn wsL_setFactor wsX9_setFactor := goodIn_ca (goodIn_ca (goodIn_r _ [7, 8, 9, 10, 11, 12, 13, 14, 6, 15, 16, 17, 18, 19, 20, 21, 22, 23, 24, 25, 26, 27, 28, 29, 30, 31, 32, 33, 34, 35, 36, 37, 38, 39, 40, 41, 42, 43, 44, 45, 46, 47, 48, 49, 50, 51, 52, 53, 54, 55, 56, 57, 58, 59, 60, 61, 62, 63, 64, 65, 66, 67, 68, 69, 70, 71, 72, 73, 74, 75, 76, 77, 78, 79, 80, 81, 82, 83, 84, 85, 86, 87, 88, 89, 90, 91, 92, 93, 94, 95, 96, 97, 98, 99, 100, 101, 102, 103, 104, 105, 106, 107, 108, 109, 110, 111, 112, 113, 114, 115, 116, 117, 118, 119, 120, 121, 122, 123, 124, 125, 126, 127, 128, 129, 130, 131, 132, 133, 134, 135, 136, 137, 138, 139, 140, 141, 142, 143, 144, 145, 146, 147, 148, 149, 150, 151, 152, 153, 154, 155, 156, 157, 158, 159, 160, 161, 162, 163, 164, 165, 166, 167, 168, 169, 170, 171, 172, 173, 174, 175, 176, 177, 178, 179, 180, 181, 182, 183, 184, 185, 186, 187, 188, 189, 190, 191, 192, 193, 194, 195, 196, 197, 198, 199, 200, 201, 202, 203, 204, 205, 206, 207, 208, 209, 210, 211, 212, 213, 214, 215, 216, 217, 218] (by decide +kernel) (by decide +kernel)) (goodIn_sub (fun _ h => List.mem_cons_of_mem _ (List.mem_append_left _ (List.mem_append_right _ h))) (by decide +kernel))) (goodIn_sub (fun _ h => List.mem_cons_of_mem _ (List.mem_append_right _ h)) (by decide +kernel))
set_option maxRecDepth 20000 in
theorem gL_setFactor_X9_setFactor : GoodIn wsL_setFactor (wsV RL 27 RX9 yX9_setFactor wsX9_setFactor) := goodIn_app (goodIn_of _ (by decide +kernel)) ggL_setFactor_X9_setFactor
theorem dL_setFactor_0 : decode cL_setFactor 0 = .ok (.aload_n 3, 1) := by decide +kernel
theorem dL_setFactor_1 : decode cL_setFactor 1 = .ok (.iconst 0, 1) := by decide +kernel
theorem dL_setFactor_2 : decode cL_setFactor 2 = .ok (.aload_n 0, 1) := by decide +kernel
theorem dL_setFactor_3 : decode cL_setFactor 3 = .ok (.iload_n 1, 1) := by decide +kernel
theorem dL_setFactor_4 : decode cL_setFactor 4 = .ok (.iload_n 2, 1) := by decide +kernel
theorem dL_setFactor_5 : decode cL_setFactor 5 = .ok (.invokevirtual 27, 3) := by decide +kernel
theorem dL_setFactor_8 : decode cL_setFactor 8 = .ok (.i2l, 1) := by decide +kernel
theorem dL_setFactor_9 : decode cL_setFactor 9 = .ok (.lastore, 1) := by decide +kernel
theorem dL_setFactor_10 : decode cL_setFactor 10 = .ok (.goto 11, 3) := by decide +kernel
theorem dL_setFactor_13 : decode cL_setFactor 13 = .ok (.astore 4, 2) := by decide +kernel
theorem dL_setFactor_15 : decode cL_setFactor 15 = .ok (.iconst 1, 1) := by decide +kernel
theorem dL_setFactor_16 : decode cL_setFactor 16 = .ok (.ireturn, 1) := by decide +kernel
theorem dL_setFactor_17 : decode cL_setFactor 17 = .ok (.astore 4, 2) := by decide +kernel
theorem dL_setFactor_19 : decode cL_setFactor 19 = .ok (.iconst 2, 1) := by decide +kernel
theorem dL_setFactor_20 : decode cL_setFactor 20 = .ok (.ireturn, 1) := by decide +kernel
theorem dL_setFactor_21 : decode cL_setFactor 21 = .ok (.iconst 0, 1) := by decide +kernel
theorem dL_setFactor_22 : decode cL_setFactor 22 = .ok (.ireturn, 1) := by decide +kernel
set_option maxRecDepth 20000 in
theorem ggL_setMeter_X9_setMeter : GoodIn wsL_setMeter wsX9_setMeter := goodIn_ca (goodIn_r _ [6, 7, 8, 9, 10, 11, 12, 5, 13, 14, 15, 16, 17, 18, 19, 20, 21, 22, 23, 24, 25, 26, 27, 28, 29, 30, 31, 32, 33, 34, 35, 36, 37, 38, 39, 40, 41, 42, 43, 44, 45, 46, 47, 48, 49, 50, 51, 52, 53, 54, 55, 56, 57, 58, 59, 60, 61, 62, 63, 64, 65, 66, 67, 68, 69, 70, 71, 72, 73, 74, 75, 76, 77, 78, 79, 80, 81, 82, 83, 84, 85, 86, 87, 88, 89, 90, 91, 92, 93, 94, 95, 96, 97, 98, 99, 100, 101, 102, 103, 104, 105, 106, 107, 108, 109, 110, 111, 112, 113, 114, 115, 116, 117, 118, 119, 120, 121, 122, 123, 124, 125, 126, 127, 128, 129, 130, 131, 132, 133, 134, 135, 136, 137, 138, 139, 140, 141, 142, 143, 144, 145, 146, 147, 148, 149, 150, 151, 152, 153, 154, 155, 156, 157, 158, 159, 160, 161, 162, 163, 164, 165, 166, 167, 168, 169, 170, 171, 172, 173, 174, 175, 176, 177, 178, 179, 180, 181, 182, 183, 184, 185, 186, 187, 188, 189, 190, 191, 192, 193, 194, 195, 196, 197, 198, 199, 200, 201, 202, 203, 204, 205, 206, 207, 208, 209, 210, 211] (by decide +kernel) (by decide +kernel)) (goodIn_sub (fun _ h => List.mem_cons_of_mem _ (List.mem_append_right _ h)) (by decide +kernel))
set_option maxRecDepth 20000 in
theorem gL_setMeter_X9_setMeter : GoodIn wsL_setMeter (wsV RL 30 RX9 yX9_setMeter wsX9_setMeter) := goodIn_app (goodIn_of _ (by decide +kernel)) ggL_setMeter_X9_setMeter
theorem dL_setMeter_0 : decode cL_setMeter 0 = .ok (.aload_n 2, 1) := by decide +kernel
theorem dL_setMeter_1 : decode cL_setMeter 1 = .ok (.iconst 0, 1) := by decide +kernel
theorem dL_setMeter_2 : decode cL_setMeter 2 = .ok (.aload_n 0, 1) := by decide +kernel
theorem dL_setMeter_3 : decode cL_setMeter 3 = .ok (.iload_n 1, 1) := by decide +kernel
theorem dL_setMeter_4 : decode cL_setMeter 4 = .ok (.invokevirtual 30, 3) := by decide +kernel
theorem dL_setMeter_7 : decode cL_setMeter 7 = .ok (.i2l, 1) := by decide +kernel
theorem dL_setMeter_8 : decode cL_setMeter 8 = .ok (.lastore, 1) := by decide +kernel
theorem dL_setMeter_9 : decode cL_setMeter 9 = .ok (.goto 6, 3) := by decide +kernel
theorem dL_setMeter_12 : decode cL_setMeter 12 = .ok (.astore_n 3, 1) := by decide +kernel
theorem dL_setMeter_13 : decode cL_setMeter 13 = .ok (.iconst 1, 1) := by decide +kernel
theorem dL_setMeter_14 : decode cL_setMeter 14 = .ok (.ireturn, 1) := by decide +kernel
theorem dL_setMeter_15 : decode cL_setMeter 15 = .ok (.iconst 0, 1) := by decide +kernel
theorem dL_setMeter_16 : decode cL_setMeter 16 = .ok (.ireturn, 1) := by decide +kernel
set_option maxRecDepth 20000 in
theorem ggL_setCutoff_X9_setCutoff : GoodIn wsL_setCutoff wsX9_setCutoff := goodIn_ca (goodIn_r _ [6, 7, 8, 9, 10, 11, 12, 13, 5, 14, 15, 16, 17, 18, 19, 20, 21, 22, 23, 24, 25, 26, 27, 28, 29, 30, 31, 32, 33, 34, 35, 36, 37, 38, 39, 40, 41, 42, 43, 44, 45, 46, 47, 48, 49, 50, 51, 52, 53, 54, 55, 56, 57, 58, 59, 60, 61, 62, 63, 64, 65, 66, 67, 68, 69, 70, 71, 72, 73, 74, 75, 76, 77, 78, 79, 80, 81, 82, 83, 84, 85, 86, 87, 88, 89, 90, 91, 92, 93, 94, 95, 96, 97, 98, 99, 100, 101, 102, 103, 104, 105, 106, 107, 108, 109, 110, 111, 112, 113, 114, 115, 116, 117, 118, 119, 120, 121, 122, 123, 124, 125, 126, 127, 128, 129, 130, 131, 132, 133, 134, 135, 136, 137, 138, 139, 140, 141, 142, 143, 144, 145, 146, 147, 148, 149, 150, 151, 152, 153, 154, 155, 156, 157, 158, 159, 160, 161, 162, 163, 164, 165, 166, 167, 168, 169, 170, 171, 172, 173, 174, 175, 176, 177, 178, 179, 180, 181, 182, 183, 184, 185, 186, 187, 188, 189, 190, 191, 192, 193, 194, 195, 196, 197, 198, 199, 200, 201, 202, 203, 204, 205, 206, 207, 208, 209, 210, 211, 212] (by decide +kernel) (by decide +kernel)) (goodIn_sub (fun _ h => List.mem_cons_of_mem _ (List.mem_append_right _ h)) (by decide +kernel))
set_option maxRecDepth 20000 in
theorem gL_setCutoff_X9_setCutoff : GoodIn wsL_setCutoff (wsV RL 33 RX9 yX9_setCutoff wsX9_setCutoff) := goodIn_app (goodIn_of _ (by decide +kernel)) ggL_setCutoff_X9_setCutoff
theorem dL_setCutoff_0 : decode cL_setCutoff 0 = .ok (.aload_n 3, 1) := by decide +kernel
theorem dL_setCutoff_1 : decode cL_setCutoff 1 = .ok (.iconst 0, 1) := by decide +kernel
theorem dL_setCutoff_2 : decode cL_setCutoff 2 = .ok (.aload_n 0, 1) := by decide +kernel
theorem dL_setCutoff_3 : decode cL_setCutoff 3 = .ok (.iload_n 1, 1) := by decide +kernel
theorem dL_setCutoff_4 : decode cL_setCutoff 4 = .ok (.iload_n 2, 1) := by decide +kernel
theorem dL_setCutoff_5 : decode cL_setCutoff 5 = .ok (.invokevirtual 33, 3) := by decide +kernel
theorem dL_setCutoff_8 : decode cL_setCutoff 8 = .ok (.i2l, 1) := by decide +kernel
theorem dL_setCutoff_9 : decode cL_setCutoff 9 = .ok (.lastore, 1) := by decide +kernel
theorem dL_setCutoff_10 : decode cL_setCutoff 10 = .ok (.goto 7, 3) := by decide +kernel
theorem dL_setCutoff_13 : decode cL_setCutoff 13 = .ok (.astore 4, 2) := by decide +kernel
theorem dL_setCutoff_15 : decode cL_setCutoff 15 = .ok (.iconst 1, 1) := by decide +kernel
theorem dL_setCutoff_16 : decode cL_setCutoff 16 = .ok (.ireturn, 1) := by decide +kernel
theorem dL_setCutoff_17 : decode cL_setCutoff 17 = .ok (.iconst 0, 1) := by decide +kernel
theorem dL_setCutoff_18 : decode cL_setCutoff 18 = .ok (.ireturn, 1) := by decide +kernel
set_option maxRecDepth 20000 in
theorem ggL_setContractHour_X9_setContractHour : GoodIn wsL_setContractHour wsX9_setContractHour := goodIn_ca (goodIn_r _ [6, 7, 8, 9, 10, 11, 5, 12, 13, 14, 15, 16, 17, 18, 19, 20, 21, 22, 23, 24, 25, 26, 27, 28, 29, 30, 31, 32, 33, 34, 35, 36, 37, 38, 39, 40, 41, 42, 43, 44, 45, 46, 47, 48, 49, 50, 51, 52, 53, 54, 55, 56, 57, 58, 59, 60, 61, 62, 63, 64, 65, 66, 67, 68, 69, 70, 71, 72, 73, 74, 75, 76, 77, 78, 79, 80, 81, 82, 83, 84, 85, 86, 87, 88, 89, 90, 91, 92, 93, 94, 95, 96, 97, 98, 99, 100, 101, 102, 103, 104, 105, 106, 107, 108, 109, 110, 111, 112, 113, 114, 115, 116, 117, 118, 119, 120, 121, 122, 123, 124, 125, 126, 127, 128, 129, 130, 131, 132, 133, 134, 135, 136, 137, 138, 139, 140, 141, 142, 143, 144, 145, 146, 147, 148, 149, 150, 151, 152, 153, 154, 155, 156, 157, 158, 159, 160, 161, 162, 163, 164, 165, 166, 167, 168, 169, 170, 171, 172, 173, 174, 175, 176, 177, 178, 179, 180, 181, 182, 183, 184, 185, 186, 187, 188, 189, 190, 191, 192, 193, 194, 195, 196, 197, 198, 199, 200, 201, 202, 203, 204, 205, 206, 207, 208, 209, 210] (by decide +kernel) (by decide +kernel)) (goodIn_sub (fun _ h => List.mem_cons_of_mem _ (List.mem_append_right _ h)) (by decide +kernel))
set_option maxRecDepth 20000 in
theorem gL_setContractHour_X9_setContractHour : GoodIn wsL_setContractHour (wsV RL 36 RX9 yX9_setContractHour wsX9_setContractHour) := goodIn_app (goodIn_of _ (by decide +kernel)) ggL_setContractHour_X9_setContractHour
theorem dL_setContractHour_0 : decode cL_setContractHour 0 = .ok (.aload_n 2, 1) := by decide +kernel
theorem dL_setContractHour_1 : decode cL_setContractHour 1 = .ok (.iconst 0, 1) := by decide +kernel
theorem dL_setContractHour_2 : decode cL_setContractHour 2 = .ok (.aload_n 0, 1) := by decide +kernel
theorem dL_setContractHour_3 : decode cL_setContractHour 3 = .ok (.iload_n 1, 1) := by decide +kernel
theorem dL_setContractHour_4 : decode cL_setContractHour 4 = .ok (.invokevirtual 36, 3) := by decide +kernel
theorem dL_setContractHour_7 : decode cL_setContractHour 7 = .ok (.i2l, 1) := by decide +kernel
theorem dL_setContractHour_8 : decode cL_setContractHour 8 = .ok (.lastore, 1) := by decide +kernel
theorem dL_setContractHour_9 : decode cL_setContractHour 9 = .ok (.goto 6, 3) := by decide +kernel
theorem dL_setContractHour_12 : decode cL_setContractHour 12 = .ok (.astore_n 3, 1) := by decide +kernel
theorem dL_setContractHour_13 : decode cL_setContractHour 13 = .ok (.iconst 1, 1) := by decide +kernel
theorem dL_setContractHour_14 : decode cL_setContractHour 14 = .ok (.ireturn, 1) := by decide +kernel
theorem dL_setContractHour_15 : decode cL_setContractHour 15 = .ok (.iconst 0, 1) := by decide +kernel
theorem dL_setContractHour_16 : decode cL_setContractHour 16 = .ok (.ireturn, 1) := by decide +kernel
set_option maxRecDepth 20000 in
theorem ggL_setRaw_X9_setRaw : GoodIn wsL_setRaw wsX9_setRaw := goodIn_ca (goodIn_ca (goodIn_r _ [7, 8, 9, 10, 11, 12, 6, 13, 14, 15, 16, 17, 18, 19, 20, 21, 22, 23, 24, 25, 26, 27, 28, 29, 30, 31, 32, 33, 34, 35, 36, 37, 38, 39, 40, 41, 42, 43, 44, 45, 46, 47, 48, 49, 50, 51, 52, 53, 54, 55, 56, 57, 58, 59, 60, 61, 62, 63, 64, 65, 66, 67, 68, 69, 70, 71, 72, 73, 74, 75, 76, 77, 78, 79, 80, 81, 82, 83, 84, 85, 86, 87, 88, 89, 90, 91, 92, 93, 94, 95, 96, 97, 98, 99, 100, 101, 102, 103, 104, 105, 106, 107, 108, 109, 110, 111, 112, 113, 114, 115, 116, 117, 118, 119, 120, 121, 122, 123, 124, 125, 126, 127, 128, 129, 130, 131, 132, 133, 134, 135, 136, 137, 138, 139, 140, 141, 142, 143, 144, 145, 146, 147, 148, 149, 150, 151, 152, 153, 154, 155, 156, 157, 158, 159, 160, 161, 162, 163, 164, 165, 166, 167, 168, 169, 170, 171, 172, 173, 174, 175, 176, 177, 178, 179, 180, 181, 182, 183, 184, 185, 186, 187, 188, 189, 190, 191, 192, 193, 194, 195, 196, 197, 198, 199, 200, 201, 202, 203, 204, 205, 206, 207, 208] (by decide +kernel) (by decide +kernel)) (goodIn_sub (fun _ h => List.mem_cons_of_mem _ (List.mem_append_left _ (List.mem_append_right _ h))) (by decide +kernel))) (goodIn_sub (fun _ h => List.mem_cons_of_mem _ (List.mem_append_right _ h)) (by decide +kernel))
set_option maxRecDepth 20000 in
theorem gL_setRaw_X9_setRaw : GoodIn wsL_setRaw (wsV RL 39 RX9 yX9_setRaw wsX9_setRaw) := goodIn_app (goodIn_of _ (by decide +kernel)) ggL_setRaw_X9_setRaw
theorem dL_setRaw_0 : decode cL_setRaw 0 = .ok (.aload_n 3, 1) := by decide +kernel
theorem dL_setRaw_1 : decode cL_setRaw 1 = .ok (.iconst 0, 1) := by decide +kernel
theorem dL_setRaw_2 : decode cL_setRaw 2 = .ok (.aload_n 0, 1) := by decide +kernel
theorem dL_setRaw_3 : decode cL_setRaw 3 = .ok (.iload_n 1, 1) := by decide +kernel
theorem dL_setRaw_4 : decode cL_setRaw 4 = .ok (.iload_n 2, 1) := by decide +kernel
theorem dL_setRaw_5 : decode cL_setRaw 5 = .ok (.invokevirtual 39, 3) := by decide +kernel
theorem dL_setRaw_8 : decode cL_setRaw 8 = .ok (.i2l, 1) := by decide +kernel
theorem dL_setRaw_9 : decode cL_setRaw 9 = .ok (.lastore, 1) := by decide +kernel
theorem dL_setRaw_10 : decode cL_setRaw 10 = .ok (.goto 11, 3) := by decide +kernel
theorem dL_setRaw_13 : decode cL_setRaw 13 = .ok (.astore 4, 2) := by decide +kernel
theorem dL_setRaw_15 : decode cL_setRaw 15 = .ok (.iconst 1, 1) := by decide +kernel
theorem dL_setRaw_16 : decode cL_setRaw 16 = .ok (.ireturn, 1) := by decide +kernel
theorem dL_setRaw_17 : decode cL_setRaw 17 = .ok (.astore 4, 2) := by decide +kernel
theorem dL_setRaw_19 : decode cL_setRaw 19 = .ok (.iconst 2, 1) := by decide +kernel
theorem dL_setRaw_20 : decode cL_setRaw 20 = .ok (.ireturn, 1) := by decide +kernel
theorem dL_setRaw_21 : decode cL_setRaw 21 = .ok (.iconst 0, 1) := by decide +kernel
theorem dL_setRaw_22 : decode cL_setRaw 22 = .ok (.ireturn, 1) := by decide +kernel
set_option maxRecDepth 20000 in
theorem ggL_run_X9_run : GoodIn wsL_run wsX9_run := goodIn_ca (goodIn_r _ [6, 7, 8, 9, 10, 11, 5, 12, 13, 14, 15, 16, 17, 18, 19, 20, 21, 22, 23, 24, 25, 26, 27, 28, 29, 30, 31, 32, 33, 34, 35, 36, 37, 38, 39, 40, 41, 42, 43, 44, 45, 46, 47, 48, 49, 50, 51, 52, 53, 54, 55, 56, 57, 58, 59, 60, 61, 62, 63, 64, 65, 66, 67, 68, 69, 70, 71, 72, 73, 74, 75, 76, 77, 78, 79, 80, 81, 82, 83, 84, 85, 86, 87, 88, 89, 90, 91, 92, 93, 94, 95, 96, 97, 98, 99, 100, 101, 102, 103, 104, 105, 106, 107, 108, 109, 110, 111, 112, 113, 114, 115, 116, 117, 118, 119, 120, 121, 122, 123, 124, 125, 126, 127, 128, 129, 130, 131, 132, 133, 134, 135, 136, 137, 138, 139, 140, 141, 142, 143, 144, 145, 146, 147, 148, 149, 150, 151, 152, 153, 154, 155, 156, 157, 158, 159, 160, 161, 162, 163, 164, 165, 166, 167, 168, 169, 170, 171, 172, 173, 174, 175, 176, 177, 178, 179, 180, 181, 182, 183, 184, 185, 186, 187, 188, 189, 190, 191, 192, 193, 194, 195, 196, 197, 198, 199, 200, 201, 202, 203, 204, 205, 206, 207, 208, 209, 210, 211, 212, 213, 214, 215, 216, 217, 218, 219, 220, 221, 222, 223, 224, 225, 226, 227, 228, 229, 230, 231, 232, 233, 234, 235, 236, 237, 238, 239, 240, 241, 242, 243, 244, 245, 246, 247, 248, 249, 250, 251, 252, 253, 254, 255, 256, 257, 258, 259, 260, 261, 262, 263, 264, 265, 266, 267, 268, 269, 270, 271, 272, 273, 274, 275, 276, 277, 278, 279, 280, 281, 282, 283, 284, 285, 286, 287, 288, 289, 290, 291, 292, 293, 294, 295, 296, 297, 298, 299, 300, 301, 302, 303, 304, 305, 306, 307, 308, 309, 310, 311, 312, 313, 314, 315, 316, 317, 318, 319, 320, 321, 322, 323, 324, 325, 326, 327, 328, 329, 330, 331, 332, 333, 334, 335, 336, 337, 338, 339, 340, 341, 342, 343, 344, 345, 346, 347, 348, 349, 350, 351, 352, 353, 354, 355, 356, 357, 358, 359, 360, 361, 362, 363, 364, 365, 366, 367, 368, 369, 370, 371, 372, 373, 374, 375, 376, 377, 378, 379, 380, 381, 382, 383, 384] (by decide +kernel) (by decide +kernel)) (goodIn_sub (fun _ h => List.mem_cons_of_mem _ (List.mem_append_right _ h)) (by decide +kernel))
set_option maxRecDepth 20000 in
theorem gL_run_X9_run : GoodIn wsL_run (wsV RL 42 RX9 yX9_run wsX9_run) := goodIn_app (goodIn_of _ (by decide +kernel)) ggL_run_X9_run
theorem dL_run_0 : decode cL_run 0 = .ok (.aload_n 2, 1) := by decide +kernel
theorem dL_run_1 : decode cL_run 1 = .ok (.iconst 0, 1) := by decide +kernel
theorem dL_run_2 : decode cL_run 2 = .ok (.aload_n 0, 1) := by decide +kernel
theorem dL_run_3 : decode cL_run 3 = .ok (.iload_n 1, 1) := by decide +kernel
theorem dL_run_4 : decode cL_run 4 = .ok (.invokevirtual 42, 3) := by decide +kernel
theorem dL_run_7 : decode cL_run 7 = .ok (.lastore, 1) := by decide +kernel
theorem dL_run_8 : decode cL_run 8 = .ok (.goto 6, 3) := by decide +kernel
theorem dL_run_11 : decode cL_run 11 = .ok (.astore_n 3, 1) := by decide +kernel
theorem dL_run_12 : decode cL_run 12 = .ok (.iconst 1, 1) := by decide +kernel
theorem dL_run_13 : decode cL_run 13 = .ok (.ireturn, 1) := by decide +kernel
theorem dL_run_14 : decode cL_run 14 = .ok (.iconst 0, 1) := by decide +kernel
theorem dL_run_15 : decode cL_run 15 = .ok (.ireturn, 1) := by decide +kernel
set_option maxRecDepth 20000 in
theorem ggL_openBatch_X9_openBatch : GoodIn wsL_openBatch wsX9_openBatch := goodIn_ca (goodIn_ca (goodIn_r _ [7, 8, 9, 10, 11, 12, 13, 14, 6, 15, 16, 17, 18, 19, 20, 21, 22, 23, 24, 25, 26, 27, 28, 29, 30, 31, 32, 33, 34, 35, 36, 37, 38, 39, 40, 41, 42, 43, 44, 45, 46, 47, 48, 49, 50, 51, 52, 53, 54, 55, 56, 57, 58, 59, 60, 61, 62, 63, 64, 65, 66, 67, 68, 69, 70, 71, 72, 73, 74, 75, 76, 77, 78, 79, 80, 81, 82, 83, 84, 85, 86, 87, 88, 89, 90, 91, 92, 93, 94, 95, 96, 97, 98, 99, 100, 101, 102, 103, 104, 105, 106, 107, 108, 109, 110, 111, 112, 113, 114, 115, 116, 117, 118, 119, 120, 121, 122, 123, 124, 125, 126, 127, 128, 129, 130, 131, 132, 133, 134, 135, 136, 137, 138, 139, 140, 141, 142, 143, 144, 145, 146, 147, 148, 149, 150, 151, 152, 153, 154, 155, 156, 157, 158, 159, 160, 161, 162, 163, 164, 165, 166, 167, 168, 169, 170, 171, 172, 173, 174, 175, 176, 177, 178, 179, 180, 181, 182, 183, 184, 185, 186, 187, 188, 189, 190, 191, 192, 193, 194, 195, 196, 197, 198, 199, 200, 201, 202, 203, 204] (by decide +kernel) (by decide +kernel)) (goodIn_sub (fun _ h => List.mem_cons_of_mem _ (List.mem_append_left _ (List.mem_append_right _ h))) (by decide +kernel))) (goodIn_sub (fun _ h => List.mem_cons_of_mem _ (List.mem_append_right _ h)) (by decide +kernel))
set_option maxRecDepth 20000 in
theorem gL_openBatch_X9_openBatch : GoodIn wsL_openBatch (wsV RL 46 RX9 yX9_openBatch wsX9_openBatch) := goodIn_app (goodIn_of _ (by decide +kernel)) ggL_openBatch_X9_openBatch
theorem dL_openBatch_0 : decode cL_openBatch 0 = .ok (.aload_n 3, 1) := by decide +kernel
theorem dL_openBatch_1 : decode cL_openBatch 1 = .ok (.iconst 0, 1) := by decide +kernel
theorem dL_openBatch_2 : decode cL_openBatch 2 = .ok (.aload_n 0, 1) := by decide +kernel
theorem dL_openBatch_3 : decode cL_openBatch 3 = .ok (.iload_n 1, 1) := by decide +kernel
theorem dL_openBatch_4 : decode cL_openBatch 4 = .ok (.iload_n 2, 1) := by decide +kernel
theorem dL_openBatch_5 : decode cL_openBatch 5 = .ok (.invokevirtual 46, 3) := by decide +kernel
theorem dL_openBatch_8 : decode cL_openBatch 8 = .ok (.i2l, 1) := by decide +kernel
theorem dL_openBatch_9 : decode cL_openBatch 9 = .ok (.lastore, 1) := by decide +kernel
theorem dL_openBatch_10 : decode cL_openBatch 10 = .ok (.goto 11, 3) := by decide +kernel
theorem dL_openBatch_13 : decode cL_openBatch 13 = .ok (.astore 4, 2) := by decide +kernel
theorem dL_openBatch_15 : decode cL_openBatch 15 = .ok (.iconst 1, 1) := by decide +kernel
theorem dL_openBatch_16 : decode cL_openBatch 16 = .ok (.ireturn, 1) := by decide +kernel
theorem dL_openBatch_17 : decode cL_openBatch 17 = .ok (.astore 4, 2) := by decide +kernel
theorem dL_openBatch_19 : decode cL_openBatch 19 = .ok (.iconst 2, 1) := by decide +kernel
theorem dL_openBatch_20 : decode cL_openBatch 20 = .ok (.ireturn, 1) := by decide +kernel
theorem dL_openBatch_21 : decode cL_openBatch 21 = .ok (.iconst 0, 1) := by decide +kernel
theorem dL_openBatch_22 : decode cL_openBatch 22 = .ok (.ireturn, 1) := by decide +kernel
set_option maxRecDepth 20000 in
theorem ggL_closeBatch_X9_closeBatch : GoodIn wsL_closeBatch wsX9_closeBatch := goodIn_ca (goodIn_r _ [6, 7, 8, 9, 10, 11, 12, 5, 13, 14, 15, 16, 17, 18, 19, 20, 21, 22, 23, 24, 25, 26, 27, 28, 29, 30, 31, 32, 33, 34, 35, 36, 37, 38, 39, 40, 41, 42, 43, 44, 45, 46, 47, 48, 49, 50, 51, 52, 53, 54, 55, 56, 57, 58, 59, 60, 61, 62, 63, 64, 65, 66, 67, 68, 69, 70, 71, 72, 73, 74, 75, 76, 77, 78, 79, 80, 81, 82, 83, 84, 85, 86, 87, 88, 89, 90, 91, 92, 93, 94, 95, 96, 97, 98, 99, 100, 101, 102, 103, 104, 105, 106, 107, 108, 109, 110, 111, 112, 113, 114, 115, 116, 117, 118, 119, 120, 121, 122, 123, 124, 125, 126, 127, 128, 129, 130, 131, 132, 133, 134, 135, 136, 137, 138, 139, 140, 141, 142, 143, 144, 145, 146, 147, 148, 149, 150, 151, 152, 153, 154, 155, 156, 157, 158, 159, 160, 161, 162, 163, 164, 165, 166, 167, 168, 169, 170, 171, 172, 173, 174, 175, 176, 177, 178, 179, 180, 181, 182, 183, 184, 185, 186, 187, 188, 189, 190, 191, 192, 193] (by decide +kernel) (by decide +kernel)) (goodIn_sub (fun _ h => List.mem_cons_of_mem _ (List.mem_append_right _ h)) (by decide +kernel))
set_option maxRecDepth 20000 in
theorem gL_closeBatch_X9_closeBatch : GoodIn wsL_closeBatch (wsV RL 51 RX9 yX9_closeBatch wsX9_closeBatch) := goodIn_app (goodIn_of _ (by decide +kernel)) ggL_closeBatch_X9_closeBatch
theorem dL_closeBatch_0 : decode cL_closeBatch 0 = .ok (.aload_n 1, 1) := by decide +kernel
theorem dL_closeBatch_1 : decode cL_closeBatch 1 = .ok (.iconst 0, 1) := by decide +kernel
theorem dL_closeBatch_2 : decode cL_closeBatch 2 = .ok (.aload_n 0, 1) := by decide +kernel
theorem dL_closeBatch_3 : decode cL_closeBatch 3 = .ok (.invokevirtual 51, 3) := by decide +kernel
theorem dL_closeBatch_6 : decode cL_closeBatch 6 = .ok (.lastore, 1) := by decide +kernel
theorem dL_closeBatch_7 : decode cL_closeBatch 7 = .ok (.goto 6, 3) := by decide +kernel
theorem dL_closeBatch_10 : decode cL_closeBatch 10 = .ok (.astore_n 2, 1) := by decide +kernel
theorem dL_closeBatch_11 : decode cL_closeBatch 11 = .ok (.iconst 1, 1) := by decide +kernel
theorem dL_closeBatch_12 : decode cL_closeBatch 12 = .ok (.ireturn, 1) := by decide +kernel
theorem dL_closeBatch_13 : decode cL_closeBatch 13 = .ok (.iconst 0, 1) := by decide +kernel
theorem dL_closeBatch_14 : decode cL_closeBatch 14 = .ok (.ireturn, 1) := by decide +kernel
set_option maxRecDepth 20000 in
theorem ggL_transmitter_X9_transmitter : GoodIn wsL_transmitter wsX9_transmitter := goodIn_ca (goodIn_ca (goodIn_r _ [7, 8, 9, 10, 11, 12, 13, 6, 14, 15, 16, 17, 18, 19, 20, 21, 22, 23, 24, 25, 26, 27, 28, 29, 30, 31, 32, 33, 34, 35, 36, 37, 38, 39, 40, 41, 42, 43, 44, 45, 46, 47, 48, 49, 50, 51, 52, 53, 54, 55, 56, 57, 58, 59, 60, 61, 62, 63, 64, 65, 66, 67, 68, 69, 70, 71, 72, 73, 74, 75, 76, 77, 78] (by decide +kernel) (by decide +kernel)) (goodIn_sub (fun _ h => List.mem_cons_of_mem _ (List.mem_append_left _ (List.mem_append_right _ h))) (by decide +kernel))) (goodIn_sub (fun _ h => List.mem_cons_of_mem _ (List.mem_append_right _ h)) (by decide +kernel))
set_option maxRecDepth 20000 in
theorem gL_transmitter_X9_transmitter : GoodIn wsL_transmitter (wsV RL 55 RX9 yX9_transmitter wsX9_transmitter) := goodIn_app (goodIn_of _ (by decide +kernel)) ggL_transmitter_X9_transmitter
theorem dL_transmitter_0 : decode cL_transmitter 0 = .ok (.aload_n 3, 1) := by decide +kernel
theorem dL_transmitter_1 : decode cL_transmitter 1 = .ok (.iconst 0, 1) := by decide +kernel
theorem dL_transmitter_2 : decode cL_transmitter 2 = .ok (.aload_n 0, 1) := by decide +kernel
theorem dL_transmitter_3 : decode cL_transmitter 3 = .ok (.iload_n 1, 1) := by decide +kernel
theorem dL_transmitter_4 : decode cL_transmitter 4 = .ok (.iload_n 2, 1) := by decide +kernel
theorem dL_transmitter_5 : decode cL_transmitter 5 = .ok (.invokevirtual 55, 3) := by decide +kernel
theorem dL_transmitter_8 : decode cL_transmitter 8 = .ok (.i2l, 1) := by decide +kernel
theorem dL_transmitter_9 : decode cL_transmitter 9 = .ok (.lastore, 1) := by decide +kernel
theorem dL_transmitter_10 : decode cL_transmitter 10 = .ok (.goto 11, 3) := by decide +kernel
theorem dL_transmitter_13 : decode cL_transmitter 13 = .ok (.astore 4, 2) := by decide +kernel
theorem dL_transmitter_15 : decode cL_transmitter 15 = .ok (.iconst 1, 1) := by decide +kernel
theorem dL_transmitter_16 : decode cL_transmitter 16 = .ok (.ireturn, 1) := by decide +kernel
theorem dL_transmitter_17 : decode cL_transmitter 17 = .ok (.astore 4, 2) := by decide +kernel
theorem dL_transmitter_19 : decode cL_transmitter 19 = .ok (.iconst 2, 1) := by decide +kernel
theorem dL_transmitter_20 : decode cL_transmitter 20 = .ok (.ireturn, 1) := by decide +kernel
theorem dL_transmitter_21 : decode cL_transmitter 21 = .ok (.iconst 0, 1) := by decide +kernel
theorem dL_transmitter_22 : decode cL_transmitter 22 = .ok (.ireturn, 1) := by decide +kernel
set_option maxRecDepth 20000 in
theorem ggL_total_X9_total : GoodIn wsL_total wsX9_total := goodIn_ca (goodIn_r _ [6, 7, 8, 9, 10, 5, 11, 12, 13, 14, 15, 16, 17, 18, 19, 20, 21, 22, 23, 24, 25, 26, 27, 28, 29, 30, 31, 32, 33, 34, 35, 36, 37, 38, 39, 40, 41, 42, 43, 44, 45, 46, 47, 48, 49, 50, 51, 52, 53, 54, 55, 56, 57, 58, 59] (by decide +kernel) (by decide +kernel)) (goodIn_sub (fun _ h => List.mem_cons_of_mem _ (List.mem_append_right _ h)) (by decide +kernel))

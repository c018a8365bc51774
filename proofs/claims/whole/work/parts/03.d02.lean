theorem dX8_copyFrom_0 : decode cX8_copyFrom 0 = .ok (.aload_n 0, 1) := by decide +kernel
theorem dX8_copyFrom_1 : decode cX8_copyFrom 1 = .ok (.aload_n 1, 1) := by decide +kernel
theorem dX8_copyFrom_2 : decode cX8_copyFrom 2 = .ok (.getfield 15, 3) := by decide +kernel
theorem dX8_copyFrom_5 : decode cX8_copyFrom 5 = .ok (.putfield 15, 3) := by decide +kernel
theorem dX8_copyFrom_8 : decode cX8_copyFrom 8 = .ok (.aload_n 0, 1) := by decide +kernel
theorem dX8_copyFrom_9 : decode cX8_copyFrom 9 = .ok (.aload_n 1, 1) := by decide +kernel
theorem dX8_copyFrom_10 : decode cX8_copyFrom 10 = .ok (.getfield 24, 3) := by decide +kernel
theorem dX8_copyFrom_13 : decode cX8_copyFrom 13 = .ok (.putfield 24, 3) := by decide +kernel
theorem dX8_copyFrom_16 : decode cX8_copyFrom 16 = .ok (.aload_n 0, 1) := by decide +kernel
theorem dX8_copyFrom_17 : decode cX8_copyFrom 17 = .ok (.aload_n 1, 1) := by decide +kernel
theorem dX8_copyFrom_18 : decode cX8_copyFrom 18 = .ok (.getfield 9, 3) := by decide +kernel
theorem dX8_copyFrom_21 : decode cX8_copyFrom 21 = .ok (.putfield 9, 3) := by decide +kernel
theorem dX8_copyFrom_24 : decode cX8_copyFrom 24 = .ok (.aload_n 0, 1) := by decide +kernel
theorem dX8_copyFrom_25 : decode cX8_copyFrom 25 = .ok (.aload_n 1, 1) := by decide +kernel
theorem dX8_copyFrom_26 : decode cX8_copyFrom 26 = .ok (.getfield 21, 3) := by decide +kernel
theorem dX8_copyFrom_29 : decode cX8_copyFrom 29 = .ok (.putfield 21, 3) := by decide +kernel
theorem dX8_copyFrom_32 : decode cX8_copyFrom 32 = .ok (.aload_n 0, 1) := by decide +kernel
theorem dX8_copyFrom_33 : decode cX8_copyFrom 33 = .ok (.aload_n 1, 1) := by decide +kernel
theorem dX8_copyFrom_34 : decode cX8_copyFrom 34 = .ok (.getfield 27, 3) := by decide +kernel
theorem dX8_copyFrom_37 : decode cX8_copyFrom 37 = .ok (.putfield 27, 3) := by decide +kernel
theorem dX8_copyFrom_40 : decode cX8_copyFrom 40 = .ok (.return_, 1) := by decide +kernel
set_option maxRecDepth 20000 in
theorem ggX8_reading_J9_floorDiv_7cf53 : GoodIn wsX8_reading wsJ9_floorDiv_7cf53 := goodIn_r _ [8] (by decide +kernel) (by decide +kernel)
set_option maxRecDepth 20000 in
theorem gX8_reading_J9_floorDiv_7cf53 : GoodIn wsX8_reading (va_wsS RX8 32 yJ9_floorDiv_7cf53 wsJ9_floorDiv_7cf53) := goodIn_app (goodIn_of _ (by decide +kernel)) ggX8_reading_J9_floorDiv_7cf53
theorem dX8_reading_0 : decode cX8_reading 0 = .ok (.aload_n 0, 1) := by decide +kernel
theorem dX8_reading_1 : decode cX8_reading 1 = .ok (.getfield 18, 3) := by decide +kernel
theorem dX8_reading_4 : decode cX8_reading 4 = .ok (.aload_n 0, 1) := by decide +kernel
theorem dX8_reading_5 : decode cX8_reading 5 = .ok (.getfield 15, 3) := by decide +kernel
theorem dX8_reading_8 : decode cX8_reading 8 = .ok (.aload_n 0, 1) := by decide +kernel
theorem dX8_reading_9 : decode cX8_reading 9 = .ok (.getfield 9, 3) := by decide +kernel
theorem dX8_reading_12 : decode cX8_reading 12 = .ok (.sipush 13107, 3) := by decide +kernel
theorem dX8_reading_15 : decode cX8_reading 15 = .ok (.isub, 1) := by decide +kernel
theorem dX8_reading_16 : decode cX8_reading 16 = .ok (.imul, 1) := by decide +kernel
theorem dX8_reading_17 : decode cX8_reading 17 = .ok (.ldc 31, 2) := by decide +kernel
theorem dX8_reading_19 : decode cX8_reading 19 = .ok (.invokestatic 32, 3) := by decide +kernel
theorem dX8_reading_22 : decode cX8_reading 22 = .ok (.iadd, 1) := by decide +kernel
theorem dX8_reading_23 : decode cX8_reading 23 = .ok (.ireturn, 1) := by decide +kernel
theorem dX8_isFaulty_0 : decode cX8_isFaulty 0 = .ok (.aload_n 0, 1) := by decide +kernel
theorem dX8_isFaulty_1 : decode cX8_isFaulty 1 = .ok (.getfield 9, 3) := by decide +kernel
theorem dX8_isFaulty_4 : decode cX8_isFaulty 4 = .ok (.sipush 12000, 3) := by decide +kernel
theorem dX8_isFaulty_7 : decode cX8_isFaulty 7 = .ok (.if_icmp .ge 7, 3) := by decide +kernel
theorem dX8_isFaulty_10 : decode cX8_isFaulty 10 = .ok (.iconst 1, 1) := by decide +kernel
theorem dX8_isFaulty_11 : decode cX8_isFaulty 11 = .ok (.goto 4, 3) := by decide +kernel
theorem dX8_isFaulty_14 : decode cX8_isFaulty 14 = .ok (.iconst 0, 1) := by decide +kernel
theorem dX8_isFaulty_15 : decode cX8_isFaulty 15 = .ok (.ireturn, 1) := by decide +kernel
set_option maxRecDepth 20000 in
theorem ggX8_filter_X8_reading : GoodIn wsX8_filter wsX8_reading := goodIn_r _ [7, 8, 9, 10, 11, 12, 13, 14, 15, 16, 17, 18, 19, 20, 21] (by decide +kernel) (by decide +kernel)
set_option maxRecDepth 20000 in
theorem gX8_filter_X8_reading : GoodIn wsX8_filter (wsV RX8 38 RX8 yX8_reading wsX8_reading) := goodIn_app (goodIn_of _ (by decide +kernel)) ggX8_filter_X8_reading
set_option maxRecDepth 20000 in
theorem ggX8_filter_J9_floorDiv_7cf53 : GoodIn wsX8_filter wsJ9_floorDiv_7cf53 := goodIn_r _ [15] (by decide +kernel) (by decide +kernel)
set_option maxRecDepth 20000 in
theorem gX8_filter_J9_floorDiv_7cf53 : GoodIn wsX8_filter (va_wsS RX8 32 yJ9_floorDiv_7cf53 wsJ9_floorDiv_7cf53) := goodIn_app (goodIn_of _ (by decide +kernel)) ggX8_filter_J9_floorDiv_7cf53
theorem dX8_filter_0 : decode cX8_filter 0 = .ok (.aload_n 0, 1) := by decide +kernel
theorem dX8_filter_1 : decode cX8_filter 1 = .ok (.dup, 1) := by decide +kernel
theorem dX8_filter_2 : decode cX8_filter 2 = .ok (.getfield 21, 3) := by decide +kernel
theorem dX8_filter_5 : decode cX8_filter 5 = .ok (.aload_n 0, 1) := by decide +kernel
theorem dX8_filter_6 : decode cX8_filter 6 = .ok (.invokevirtual 38, 3) := by decide +kernel
theorem dX8_filter_9 : decode cX8_filter 9 = .ok (.aload_n 0, 1) := by decide +kernel
theorem dX8_filter_10 : decode cX8_filter 10 = .ok (.getfield 21, 3) := by decide +kernel
theorem dX8_filter_13 : decode cX8_filter 13 = .ok (.isub, 1) := by decide +kernel
theorem dX8_filter_14 : decode cX8_filter 14 = .ok (.iconst 1, 1) := by decide +kernel
theorem dX8_filter_15 : decode cX8_filter 15 = .ok (.aload_n 0, 1) := by decide +kernel
theorem dX8_filter_16 : decode cX8_filter 16 = .ok (.getfield 24, 3) := by decide +kernel
theorem dX8_filter_19 : decode cX8_filter 19 = .ok (.ishl, 1) := by decide +kernel
theorem dX8_filter_20 : decode cX8_filter 20 = .ok (.invokestatic 32, 3) := by decide +kernel
theorem dX8_filter_23 : decode cX8_filter 23 = .ok (.iadd, 1) := by decide +kernel
theorem dX8_filter_24 : decode cX8_filter 24 = .ok (.putfield 21, 3) := by decide +kernel
theorem dX8_filter_27 : decode cX8_filter 27 = .ok (.return_, 1) := by decide +kernel
set_option maxRecDepth 20000 in
theorem ggX8_hashAfter_X9_hashed : GoodIn wsX8_hashAfter wsX9_hashed := goodIn_r _ [7, 8] (by decide +kernel) (by decide +kernel)
set_option maxRecDepth 20000 in
theorem gX8_hashAfter_X9_hashed_n42 : GoodIn wsX8_hashAfter (wsX9_hashed) := ggX8_hashAfter_X9_hashed
theorem dX8_hashAfter_0 : decode cX8_hashAfter 0 = .ok (.lload_n 1, 1) := by decide +kernel
theorem dX8_hashAfter_1 : decode cX8_hashAfter 1 = .ok (.aload_n 0, 1) := by decide +kernel
theorem dX8_hashAfter_2 : decode cX8_hashAfter 2 = .ok (.getfield 15, 3) := by decide +kernel
theorem dX8_hashAfter_5 : decode cX8_hashAfter 5 = .ok (.i2l, 1) := by decide +kernel
theorem dX8_hashAfter_6 : decode cX8_hashAfter 6 = .ok (.invokestatic 42, 3) := by decide +kernel
theorem dX8_hashAfter_9 : decode cX8_hashAfter 9 = .ok (.lstore_n 3, 1) := by decide +kernel
theorem dX8_hashAfter_10 : decode cX8_hashAfter 10 = .ok (.lload_n 3, 1) := by decide +kernel
theorem dX8_hashAfter_11 : decode cX8_hashAfter 11 = .ok (.aload_n 0, 1) := by decide +kernel
theorem dX8_hashAfter_12 : decode cX8_hashAfter 12 = .ok (.getfield 24, 3) := by decide +kernel
theorem dX8_hashAfter_15 : decode cX8_hashAfter 15 = .ok (.i2l, 1) := by decide +kernel
theorem dX8_hashAfter_16 : decode cX8_hashAfter 16 = .ok (.invokestatic 42, 3) := by decide +kernel
theorem dX8_hashAfter_19 : decode cX8_hashAfter 19 = .ok (.lstore_n 3, 1) := by decide +kernel
theorem dX8_hashAfter_20 : decode cX8_hashAfter 20 = .ok (.lload_n 3, 1) := by decide +kernel
theorem dX8_hashAfter_21 : decode cX8_hashAfter 21 = .ok (.aload_n 0, 1) := by decide +kernel
theorem dX8_hashAfter_22 : decode cX8_hashAfter 22 = .ok (.getfield 9, 3) := by decide +kernel
theorem dX8_hashAfter_25 : decode cX8_hashAfter 25 = .ok (.i2l, 1) := by decide +kernel
theorem dX8_hashAfter_26 : decode cX8_hashAfter 26 = .ok (.invokestatic 42, 3) := by decide +kernel
theorem dX8_hashAfter_29 : decode cX8_hashAfter 29 = .ok (.lstore_n 3, 1) := by decide +kernel
theorem dX8_hashAfter_30 : decode cX8_hashAfter 30 = .ok (.lload_n 3, 1) := by decide +kernel
theorem dX8_hashAfter_31 : decode cX8_hashAfter 31 = .ok (.aload_n 0, 1) := by decide +kernel
theorem dX8_hashAfter_32 : decode cX8_hashAfter 32 = .ok (.getfield 21, 3) := by decide +kernel
theorem dX8_hashAfter_35 : decode cX8_hashAfter 35 = .ok (.i2l, 1) := by decide +kernel
theorem dX8_hashAfter_36 : decode cX8_hashAfter 36 = .ok (.invokestatic 42, 3) := by decide +kernel
theorem dX8_hashAfter_39 : decode cX8_hashAfter 39 = .ok (.lreturn, 1) := by decide +kernel
set_option maxRecDepth 20000 in
theorem ggX9_init_X6_init : GoodIn wsX9_init wsX6_init := goodIn_r _ [12, 13, 2, 3, 14, 15, 16, 17, 18, 19, 20, 21, 22, 23, 24, 25, 26, 27, 28, 29, 30, 31, 32, 33, 34, 35, 36, 37, 38, 39, 40, 41, 42, 43, 44, 45, 46, 47, 48, 49, 50, 51, 52, 53, 54, 55, 56, 57, 58, 59, 60, 61, 62, 63, 64, 65, 66, 67, 68, 69, 70, 71, 72, 73, 74, 75, 76, 77, 78, 79, 80, 81, 82, 83, 84, 85, 86, 87, 88, 89, 90, 91, 92, 93, 119, 120, 121, 122, 123, 124, 94, 95, 96, 97, 98, 99, 100, 101, 102, 103, 104, 105, 106, 107, 108, 109, 110, 111, 112, 113, 125, 126, 127, 128, 129, 130, 131, 132, 133, 134, 135, 136, 137, 138, 139, 140, 141, 142, 143, 144, 145, 146, 147, 148, 149, 150, 151, 152, 153] (by decide +kernel) (by decide +kernel)
set_option maxRecDepth 20000 in
theorem gX9_init_X6_init_n9 : GoodIn wsX9_init (wsX6_init) := ggX9_init_X6_init
theorem dX9_init_0 : decode cX9_init 0 = .ok (.aload_n 0, 1) := by decide +kernel
theorem dX9_init_1 : decode cX9_init 1 = .ok (.invokespecial 1, 3) := by decide +kernel
theorem dX9_init_4 : decode cX9_init 4 = .ok (.aload_n 0, 1) := by decide +kernel
theorem dX9_init_5 : decode cX9_init 5 = .ok (.new 7, 3) := by decide +kernel
theorem dX9_init_8 : decode cX9_init 8 = .ok (.dup, 1) := by decide +kernel
theorem dX9_init_9 : decode cX9_init 9 = .ok (.invokespecial 9, 3) := by decide +kernel
theorem dX9_init_12 : decode cX9_init 12 = .ok (.putfield 10, 3) := by decide +kernel
theorem dX9_init_15 : decode cX9_init 15 = .ok (.aload_n 0, 1) := by decide +kernel
theorem dX9_init_16 : decode cX9_init 16 = .ok (.new 7, 3) := by decide +kernel
theorem dX9_init_19 : decode cX9_init 19 = .ok (.dup, 1) := by decide +kernel
theorem dX9_init_20 : decode cX9_init 20 = .ok (.invokespecial 9, 3) := by decide +kernel
theorem dX9_init_23 : decode cX9_init 23 = .ok (.putfield 16, 3) := by decide +kernel
theorem dX9_init_26 : decode cX9_init 26 = .ok (.aload_n 0, 1) := by decide +kernel
theorem dX9_init_27 : decode cX9_init 27 = .ok (.new 7, 3) := by decide +kernel
theorem dX9_init_30 : decode cX9_init 30 = .ok (.dup, 1) := by decide +kernel
theorem dX9_init_31 : decode cX9_init 31 = .ok (.invokespecial 9, 3) := by decide +kernel
theorem dX9_init_34 : decode cX9_init 34 = .ok (.putfield 19, 3) := by decide +kernel
theorem dX9_init_37 : decode cX9_init 37 = .ok (.aload_n 0, 1) := by decide +kernel
theorem dX9_init_38 : decode cX9_init 38 = .ok (.new 7, 3) := by decide +kernel
theorem dX9_init_41 : decode cX9_init 41 = .ok (.dup, 1) := by decide +kernel
theorem dX9_init_42 : decode cX9_init 42 = .ok (.invokespecial 9, 3) := by decide +kernel
theorem dX9_init_45 : decode cX9_init 45 = .ok (.putfield 22, 3) := by decide +kernel
theorem dX9_init_48 : decode cX9_init 48 = .ok (.return_, 1) := by decide +kernel
set_option maxRecDepth 20000 in
theorem ggX9_setSpan_X9_needIndex : GoodIn wsX9_setSpan wsX9_needIndex := goodIn_ca (goodIn_r _ [8, 9, 10] (by decide +kernel) (by decide +kernel)) (goodIn_sub (fun _ h => List.mem_cons_of_mem _ (List.mem_append_left _ (List.mem_append_right _ h))) (by decide +kernel))
set_option maxRecDepth 20000 in
theorem gX9_setSpan_X9_needIndex : GoodIn wsX9_setSpan (va_wsS RX9 25 yX9_needIndex wsX9_needIndex) := goodIn_app (goodIn_of _ (by decide +kernel)) ggX9_setSpan_X9_needIndex
set_option maxRecDepth 20000 in
theorem ggX9_setSpan_X9_needBetween : GoodIn wsX9_setSpan wsX9_needBetween := goodIn_ca (goodIn_r _ [13, 14, 15] (by decide +kernel) (by decide +kernel)) (goodIn_sub (fun _ h => List.mem_cons_of_mem _ (List.mem_append_right _ h)) (by decide +kernel))
set_option maxRecDepth 20000 in
theorem gX9_setSpan_X9_needBetween : GoodIn wsX9_setSpan (va_wsS RX9 33 yX9_needBetween wsX9_needBetween) := goodIn_app (goodIn_of _ (by decide +kernel)) ggX9_setSpan_X9_needBetween
set_option maxRecDepth 20000 in
theorem ggX9_setSpan_X9_save : GoodIn wsX9_setSpan wsX9_save := goodIn_r _ [19, 20, 3, 21, 22, 23, 24, 25, 26, 27, 28, 29, 30, 31, 32, 33, 34, 35, 36, 37, 38, 39, 40, 41, 42, 43, 44, 45, 46, 47, 48, 49, 50, 51, 52, 53, 54, 55, 56, 57, 58, 59, 60, 61, 62, 63, 64, 65, 66, 67, 68, 69, 70, 71, 72, 73, 74, 75, 76, 77, 78, 79, 80, 81, 82, 83, 84, 85, 86, 87, 88, 89, 90, 91, 92, 93, 94, 95, 96, 97, 98, 99, 100, 101, 102, 103, 104, 105, 106, 107, 108, 109, 110, 111, 112, 113, 114, 115, 116, 117, 118, 119, 120, 121, 122, 123, 124, 125, 126, 127, 128, 129, 156, 157, 158, 159, 160, 167, 168, 169, 170, 171, 172, 173, 174, 175, 176, 177, 178, 179, 180, 181, 182, 183, 184, 185, 186, 161, 162, 163, 164, 165, 166, 187, 188, 189, 190, 191, 192, 193, 194, 195, 196, 197, 198, 199, 200, 201, 202, 203, 204, 205, 206, 207, 208, 209, 210, 211, 212, 213, 214, 215] (by decide +kernel) (by decide +kernel)
set_option maxRecDepth 20000 in
theorem gX9_setSpan_X9_save : GoodIn wsX9_setSpan (wsV RX9 37 RX9 yX9_save wsX9_save) := goodIn_app (goodIn_of _ (by decide +kernel)) ggX9_setSpan_X9_save
set_option maxRecDepth 20000 in
theorem ggX9_setSpan_X6_transmitterAt : GoodIn wsX9_setSpan wsX6_transmitterAt := goodIn_r _ [133, 35, 36, 37, 38, 167, 168, 169, 170, 171, 172, 173, 174, 175, 176, 177, 178, 179, 180, 181, 182, 183, 184, 185, 186] (by decide +kernel) (by decide +kernel)
set_option maxRecDepth 20000 in
theorem gX9_setSpan_X6_transmitterAt : GoodIn wsX9_setSpan (wsV RX9 40 RX6 yX6_transmitterAt wsX6_transmitterAt) := goodIn_app (goodIn_of _ (by decide +kernel)) ggX9_setSpan_X6_transmitterAt
set_option maxRecDepth 20000 in
theorem ggX9_setSpan_X6_logSetting : GoodIn wsX9_setSpan wsX6_logSetting := goodIn_r _ [137, 138, 139, 140, 31, 141, 52, 33, 142, 143, 144, 124, 145, 129, 146, 128, 147, 148, 149, 150, 126, 151, 152, 153, 154, 155, 167, 168, 169, 170, 171, 172, 173, 174, 175, 176, 177, 178, 179, 180, 181, 182, 183, 184, 185, 186, 211, 212, 213, 214, 215] (by decide +kernel) (by decide +kernel)
set_option maxRecDepth 20000 in
theorem gX9_setSpan_X6_logSetting : GoodIn wsX9_setSpan (wsV RX9 50 RX6 yX6_logSetting wsX6_logSetting) := goodIn_app (goodIn_of _ (by decide +kernel)) ggX9_setSpan_X6_logSetting
theorem dX9_setSpan_0 : decode cX9_setSpan 0 = .ok (.iload_n 1, 1) := by decide +kernel
theorem dX9_setSpan_1 : decode cX9_setSpan 1 = .ok (.iconst 4, 1) := by decide +kernel
theorem dX9_setSpan_2 : decode cX9_setSpan 2 = .ok (.invokestatic 25, 3) := by decide +kernel
theorem dX9_setSpan_5 : decode cX9_setSpan 5 = .ok (.iload_n 2, 1) := by decide +kernel
theorem dX9_setSpan_6 : decode cX9_setSpan 6 = .ok (.i2l, 1) := by decide +kernel
theorem dX9_setSpan_7 : decode cX9_setSpan 7 = .ok (.ldc2_w 29, 3) := by decide +kernel
theorem dX9_setSpan_10 : decode cX9_setSpan 10 = .ok (.ldc2_w 31, 3) := by decide +kernel
theorem dX9_setSpan_13 : decode cX9_setSpan 13 = .ok (.invokestatic 33, 3) := by decide +kernel
theorem dX9_setSpan_16 : decode cX9_setSpan 16 = .ok (.aload_n 0, 1) := by decide +kernel
theorem dX9_setSpan_17 : decode cX9_setSpan 17 = .ok (.invokevirtual 37, 3) := by decide +kernel
theorem dX9_setSpan_20 : decode cX9_setSpan 20 = .ok (.aload_n 0, 1) := by decide +kernel
theorem dX9_setSpan_21 : decode cX9_setSpan 21 = .ok (.getfield 10, 3) := by decide +kernel
theorem dX9_setSpan_24 : decode cX9_setSpan 24 = .ok (.iload_n 1, 1) := by decide +kernel
theorem dX9_setSpan_25 : decode cX9_setSpan 25 = .ok (.invokevirtual 40, 3) := by decide +kernel
theorem dX9_setSpan_28 : decode cX9_setSpan 28 = .ok (.astore_n 3, 1) := by decide +kernel
theorem dX9_setSpan_29 : decode cX9_setSpan 29 = .ok (.aload_n 3, 1) := by decide +kernel
theorem dX9_setSpan_30 : decode cX9_setSpan 30 = .ok (.getfield 44, 3) := by decide +kernel
theorem dX9_setSpan_33 : decode cX9_setSpan 33 = .ok (.istore 4, 2) := by decide +kernel
theorem dX9_setSpan_35 : decode cX9_setSpan 35 = .ok (.aload_n 3, 1) := by decide +kernel
theorem dX9_setSpan_36 : decode cX9_setSpan 36 = .ok (.iload_n 2, 1) := by decide +kernel
theorem dX9_setSpan_37 : decode cX9_setSpan 37 = .ok (.putfield 44, 3) := by decide +kernel
theorem dX9_setSpan_40 : decode cX9_setSpan 40 = .ok (.aload_n 0, 1) := by decide +kernel
theorem dX9_setSpan_41 : decode cX9_setSpan 41 = .ok (.getfield 10, 3) := by decide +kernel
theorem dX9_setSpan_44 : decode cX9_setSpan 44 = .ok (.iconst 0, 1) := by decide +kernel
theorem dX9_setSpan_45 : decode cX9_setSpan 45 = .ok (.invokevirtual 50, 3) := by decide +kernel
theorem dX9_setSpan_48 : decode cX9_setSpan 48 = .ok (.iload 4, 2) := by decide +kernel
theorem dX9_setSpan_50 : decode cX9_setSpan 50 = .ok (.ireturn, 1) := by decide +kernel
set_option maxRecDepth 20000 in
theorem ggX9_setDamping_X9_needIndex : GoodIn wsX9_setDamping wsX9_needIndex := goodIn_ca (goodIn_r _ [7, 8, 9] (by decide +kernel) (by decide +kernel)) (goodIn_sub (fun _ h => List.mem_cons_of_mem _ (List.mem_append_left _ (List.mem_append_right _ h))) (by decide +kernel))
set_option maxRecDepth 20000 in
theorem gX9_setDamping_X9_needIndex : GoodIn wsX9_setDamping (va_wsS RX9 25 yX9_needIndex wsX9_needIndex) := goodIn_app (goodIn_of _ (by decide +kernel)) ggX9_setDamping_X9_needIndex
set_option maxRecDepth 20000 in
theorem ggX9_setDamping_X9_needBetween : GoodIn wsX9_setDamping wsX9_needBetween := goodIn_ca (goodIn_r _ [12, 13, 14] (by decide +kernel) (by decide +kernel)) (goodIn_sub (fun _ h => List.mem_cons_of_mem _ (List.mem_append_right _ h)) (by decide +kernel))
set_option maxRecDepth 20000 in
theorem gX9_setDamping_X9_needBetween : GoodIn wsX9_setDamping (va_wsS RX9 33 yX9_needBetween wsX9_needBetween) := goodIn_app (goodIn_of _ (by decide +kernel)) ggX9_setDamping_X9_needBetween
set_option maxRecDepth 20000 in
theorem ggX9_setDamping_X9_save : GoodIn wsX9_setDamping wsX9_save := goodIn_r _ [18, 19, 2, 20, 21, 22, 23, 24, 25, 26, 27, 28, 29, 30, 31, 32, 33, 34, 35, 36, 37, 38, 39, 40, 41, 42, 43, 44, 45, 46, 47, 48, 49, 50, 51, 52, 53, 54, 55, 56, 57, 58, 59, 60, 61, 62, 63, 64, 65, 66, 67, 68, 69, 70, 71, 72, 73, 74, 75, 76, 77, 78, 79, 80, 81, 82, 83, 84, 85, 86, 87, 88, 89, 90, 91, 92, 93, 94, 95, 96, 97, 98, 99, 100, 101, 102, 103, 104, 105, 106, 107, 108, 109, 110, 111, 112, 113, 114, 115, 116, 117, 118, 119, 120, 121, 122, 123, 124, 125, 126, 127, 128, 155, 156, 157, 158, 159, 166, 167, 168, 169, 170, 171, 172, 173, 174, 175, 176, 177, 178, 179, 180, 181, 182, 183, 184, 185, 160, 161, 162, 163, 164, 165, 186, 187, 188, 189, 190, 191, 192, 193, 194, 195, 196, 197, 198, 199, 200, 201, 202, 203, 204, 205, 206, 207, 208, 209, 210, 211, 212, 213, 214] (by decide +kernel) (by decide +kernel)
set_option maxRecDepth 20000 in
theorem gX9_setDamping_X9_save : GoodIn wsX9_setDamping (wsV RX9 37 RX9 yX9_save wsX9_save) := goodIn_app (goodIn_of _ (by decide +kernel)) ggX9_setDamping_X9_save
set_option maxRecDepth 20000 in
theorem ggX9_setDamping_X6_transmitterAt : GoodIn wsX9_setDamping wsX6_transmitterAt := goodIn_r _ [132, 34, 35, 36, 37, 166, 167, 168, 169, 170, 171, 172, 173, 174, 175, 176, 177, 178, 179, 180, 181, 182, 183, 184, 185] (by decide +kernel) (by decide +kernel)
set_option maxRecDepth 20000 in
theorem gX9_setDamping_X6_transmitterAt : GoodIn wsX9_setDamping (wsV RX9 40 RX6 yX6_transmitterAt wsX6_transmitterAt) := goodIn_app (goodIn_of _ (by decide +kernel)) ggX9_setDamping_X6_transmitterAt
set_option maxRecDepth 20000 in
theorem ggX9_setDamping_X6_logSetting : GoodIn wsX9_setDamping wsX6_logSetting := goodIn_r _ [136, 137, 138, 139, 30, 140, 51, 32, 141, 142, 143, 123, 144, 128, 145, 127, 146, 147, 148, 149, 125, 150, 151, 152, 153, 154, 166, 167, 168, 169, 170, 171, 172, 173, 174, 175, 176, 177, 178, 179, 180, 181, 182, 183, 184, 185, 210, 211, 212, 213, 214] (by decide +kernel) (by decide +kernel)
set_option maxRecDepth 20000 in
theorem gX9_setDamping_X6_logSetting : GoodIn wsX9_setDamping (wsV RX9 50 RX6 yX6_logSetting wsX6_logSetting) := goodIn_app (goodIn_of _ (by decide +kernel)) ggX9_setDamping_X6_logSetting
theorem dX9_setDamping_0 : decode cX9_setDamping 0 = .ok (.iload_n 1, 1) := by decide +kernel
theorem dX9_setDamping_1 : decode cX9_setDamping 1 = .ok (.iconst 4, 1) := by decide +kernel
theorem dX9_setDamping_2 : decode cX9_setDamping 2 = .ok (.invokestatic 25, 3) := by decide +kernel
theorem dX9_setDamping_5 : decode cX9_setDamping 5 = .ok (.iload_n 2, 1) := by decide +kernel
theorem dX9_setDamping_6 : decode cX9_setDamping 6 = .ok (.i2l, 1) := by decide +kernel
theorem dX9_setDamping_7 : decode cX9_setDamping 7 = .ok (.lconst 0, 1) := by decide +kernel
theorem dX9_setDamping_8 : decode cX9_setDamping 8 = .ok (.ldc2_w 54, 3) := by decide +kernel
theorem dX9_setDamping_11 : decode cX9_setDamping 11 = .ok (.invokestatic 33, 3) := by decide +kernel
theorem dX9_setDamping_14 : decode cX9_setDamping 14 = .ok (.aload_n 0, 1) := by decide +kernel
theorem dX9_setDamping_15 : decode cX9_setDamping 15 = .ok (.invokevirtual 37, 3) := by decide +kernel
theorem dX9_setDamping_18 : decode cX9_setDamping 18 = .ok (.aload_n 0, 1) := by decide +kernel
theorem dX9_setDamping_19 : decode cX9_setDamping 19 = .ok (.getfield 10, 3) := by decide +kernel
theorem dX9_setDamping_22 : decode cX9_setDamping 22 = .ok (.iload_n 1, 1) := by decide +kernel
theorem dX9_setDamping_23 : decode cX9_setDamping 23 = .ok (.invokevirtual 40, 3) := by decide +kernel
theorem dX9_setDamping_26 : decode cX9_setDamping 26 = .ok (.astore_n 3, 1) := by decide +kernel
theorem dX9_setDamping_27 : decode cX9_setDamping 27 = .ok (.aload_n 3, 1) := by decide +kernel
theorem dX9_setDamping_28 : decode cX9_setDamping 28 = .ok (.getfield 56, 3) := by decide +kernel
theorem dX9_setDamping_31 : decode cX9_setDamping 31 = .ok (.istore 4, 2) := by decide +kernel
theorem dX9_setDamping_33 : decode cX9_setDamping 33 = .ok (.aload_n 3, 1) := by decide +kernel
theorem dX9_setDamping_34 : decode cX9_setDamping 34 = .ok (.iload_n 2, 1) := by decide +kernel
theorem dX9_setDamping_35 : decode cX9_setDamping 35 = .ok (.putfield 56, 3) := by decide +kernel
theorem dX9_setDamping_38 : decode cX9_setDamping 38 = .ok (.aload_n 0, 1) := by decide +kernel
theorem dX9_setDamping_39 : decode cX9_setDamping 39 = .ok (.getfield 10, 3) := by decide +kernel
theorem dX9_setDamping_42 : decode cX9_setDamping 42 = .ok (.iconst 1, 1) := by decide +kernel
theorem dX9_setDamping_43 : decode cX9_setDamping 43 = .ok (.invokevirtual 50, 3) := by decide +kernel
theorem dX9_setDamping_46 : decode cX9_setDamping 46 = .ok (.iload 4, 2) := by decide +kernel
theorem dX9_setDamping_48 : decode cX9_setDamping 48 = .ok (.ireturn, 1) := by decide +kernel
set_option maxRecDepth 20000 in
theorem ggX9_setMode_X9_needBetween : GoodIn wsX9_setMode wsX9_needBetween := goodIn_ca (goodIn_r _ [7, 8, 9] (by decide +kernel) (by decide +kernel)) (goodIn_sub (fun _ h => List.mem_cons_of_mem _ (List.mem_append_right _ h)) (by decide +kernel))
set_option maxRecDepth 20000 in
theorem gX9_setMode_X9_needBetween : GoodIn wsX9_setMode (va_wsS RX9 33 yX9_needBetween wsX9_needBetween) := goodIn_app (goodIn_of _ (by decide +kernel)) ggX9_setMode_X9_needBetween
set_option maxRecDepth 20000 in
theorem ggX9_setMode_X9_save : GoodIn wsX9_setMode wsX9_save := goodIn_r _ [13, 14, 1, 15, 16, 17, 18, 19, 20, 21, 22, 23, 24, 25, 26, 27, 28, 29, 30, 31, 32, 33, 34, 35, 36, 37, 38, 39, 40, 41, 42, 43, 44, 45, 46, 47, 48, 49, 50, 51, 52, 53, 54, 55, 56, 57, 58, 59, 60, 61, 62, 63, 64, 65, 66, 67, 68, 69, 70, 71, 72, 73, 74, 75, 76, 77, 78, 79, 80, 81, 82, 83, 84, 85, 86, 87, 88, 89, 90, 91, 92, 93, 94, 95, 96, 97, 98, 99, 100, 101, 102, 103, 104, 105, 106, 107, 108, 109, 110, 111, 112, 113, 114, 115, 116, 117, 118, 119, 120, 121, 122, 123, 146, 147, 148, 149, 150, 151, 152, 153, 154, 155, 156, 157, 158, 159, 160, 161, 162, 163, 164, 165, 166, 167, 168, 169, 170, 175, 176, 177, 178, 179, 180, 171, 172, 173, 174, 181, 182, 183, 184, 185, 186, 187, 188, 189, 190, 191, 192, 193, 194, 195, 196, 197, 198, 199, 200, 201, 202, 203, 204, 205] (by decide +kernel) (by decide +kernel)
set_option maxRecDepth 20000 in
theorem gX9_setMode_X9_save : GoodIn wsX9_setMode (wsV RX9 37 RX9 yX9_save wsX9_save) := goodIn_app (goodIn_of _ (by decide +kernel)) ggX9_setMode_X9_save
set_option maxRecDepth 20000 in
theorem ggX9_setMode_X6_logSetting : GoodIn wsX9_setMode wsX6_logSetting := goodIn_r _ [127, 128, 129, 130, 25, 131, 46, 27, 132, 133, 134, 118, 135, 123, 136, 122, 137, 138, 139, 140, 120, 141, 142, 143, 144, 145, 151, 152, 153, 154, 155, 156, 157, 158, 159, 160, 161, 162, 163, 164, 165, 166, 167, 168, 169, 170, 201, 202, 203, 204, 205] (by decide +kernel) (by decide +kernel)
set_option maxRecDepth 20000 in
theorem gX9_setMode_X6_logSetting : GoodIn wsX9_setMode (wsV RX9 50 RX6 yX6_logSetting wsX6_logSetting) := goodIn_app (goodIn_of _ (by decide +kernel)) ggX9_setMode_X6_logSetting
theorem dX9_setMode_0 : decode cX9_setMode 0 = .ok (.iload_n 1, 1) := by decide +kernel
theorem dX9_setMode_1 : decode cX9_setMode 1 = .ok (.i2l, 1) := by decide +kernel
theorem dX9_setMode_2 : decode cX9_setMode 2 = .ok (.lconst 0, 1) := by decide +kernel
theorem dX9_setMode_3 : decode cX9_setMode 3 = .ok (.lconst 1, 1) := by decide +kernel
theorem dX9_setMode_4 : decode cX9_setMode 4 = .ok (.invokestatic 33, 3) := by decide +kernel
theorem dX9_setMode_7 : decode cX9_setMode 7 = .ok (.aload_n 0, 1) := by decide +kernel
theorem dX9_setMode_8 : decode cX9_setMode 8 = .ok (.invokevirtual 37, 3) := by decide +kernel
theorem dX9_setMode_11 : decode cX9_setMode 11 = .ok (.aload_n 0, 1) := by decide +kernel
theorem dX9_setMode_12 : decode cX9_setMode 12 = .ok (.getfield 10, 3) := by decide +kernel
theorem dX9_setMode_15 : decode cX9_setMode 15 = .ok (.getfield 59, 3) := by decide +kernel
theorem dX9_setMode_18 : decode cX9_setMode 18 = .ok (.getfield 63, 3) := by decide +kernel
theorem dX9_setMode_21 : decode cX9_setMode 21 = .ok (.istore_n 2, 1) := by decide +kernel
theorem dX9_setMode_22 : decode cX9_setMode 22 = .ok (.aload_n 0, 1) := by decide +kernel
theorem dX9_setMode_23 : decode cX9_setMode 23 = .ok (.getfield 10, 3) := by decide +kernel
theorem dX9_setMode_26 : decode cX9_setMode 26 = .ok (.getfield 59, 3) := by decide +kernel
theorem dX9_setMode_29 : decode cX9_setMode 29 = .ok (.iload_n 1, 1) := by decide +kernel
theorem dX9_setMode_30 : decode cX9_setMode 30 = .ok (.putfield 63, 3) := by decide +kernel
theorem dX9_setMode_33 : decode cX9_setMode 33 = .ok (.aload_n 0, 1) := by decide +kernel
theorem dX9_setMode_34 : decode cX9_setMode 34 = .ok (.getfield 10, 3) := by decide +kernel
theorem dX9_setMode_37 : decode cX9_setMode 37 = .ok (.iconst 2, 1) := by decide +kernel
theorem dX9_setMode_38 : decode cX9_setMode 38 = .ok (.invokevirtual 50, 3) := by decide +kernel
theorem dX9_setMode_41 : decode cX9_setMode 41 = .ok (.iload_n 2, 1) := by decide +kernel
theorem dX9_setMode_42 : decode cX9_setMode 42 = .ok (.ireturn, 1) := by decide +kernel
set_option maxRecDepth 20000 in
theorem ggX9_setDensity_X9_needIndex : GoodIn wsX9_setDensity wsX9_needIndex := goodIn_ca (goodIn_r _ [8, 9, 10] (by decide +kernel) (by decide +kernel)) (goodIn_sub (fun _ h => List.mem_cons_of_mem _ (List.mem_append_left _ (List.mem_append_right _ h))) (by decide +kernel))
set_option maxRecDepth 20000 in
theorem gX9_setDensity_X9_needIndex : GoodIn wsX9_setDensity (va_wsS RX9 25 yX9_needIndex wsX9_needIndex) := goodIn_app (goodIn_of _ (by decide +kernel)) ggX9_setDensity_X9_needIndex
set_option maxRecDepth 20000 in
theorem ggX9_setDensity_X9_needBetween : GoodIn wsX9_setDensity wsX9_needBetween := goodIn_ca (goodIn_r _ [13, 14, 15] (by decide +kernel) (by decide +kernel)) (goodIn_sub (fun _ h => List.mem_cons_of_mem _ (List.mem_append_right _ h)) (by decide +kernel))
set_option maxRecDepth 20000 in
theorem gX9_setDensity_X9_needBetween : GoodIn wsX9_setDensity (va_wsS RX9 33 yX9_needBetween wsX9_needBetween) := goodIn_app (goodIn_of _ (by decide +kernel)) ggX9_setDensity_X9_needBetween
set_option maxRecDepth 20000 in
theorem ggX9_setDensity_X9_save : GoodIn wsX9_setDensity wsX9_save := goodIn_r _ [19, 20, 2, 21, 22, 23, 24, 25, 26, 27, 28, 29, 30, 31, 32, 33, 34, 35, 36, 37, 38, 39, 40, 41, 42, 43, 44, 45, 46, 47, 48, 49, 50, 51, 52, 53, 54, 55, 56, 57, 58, 59, 60, 61, 62, 63, 64, 65, 66, 67, 68, 69, 70, 71, 72, 73, 74, 75, 76, 77, 78, 79, 80, 81, 82, 83, 84, 85, 86, 87, 88, 89, 90, 91, 92, 93, 94, 95, 96, 97, 98, 99, 100, 101, 102, 103, 104, 105, 106, 107, 108, 109, 110, 111, 112, 113, 114, 115, 116, 117, 118, 119, 120, 121, 122, 123, 124, 125, 126, 127, 128, 129, 152, 153, 154, 155, 156, 157, 158, 159, 160, 161, 162, 163, 164, 165, 166, 167, 168, 169, 170, 171, 172, 173, 174, 175, 176, 181, 182, 183, 184, 185, 186, 177, 178, 179, 180, 187, 188, 189, 190, 191, 192, 193, 194, 195, 196, 197, 198, 199, 200, 201, 202, 203, 204, 205, 206, 207, 208, 209, 210, 211] (by decide +kernel) (by decide +kernel)
set_option maxRecDepth 20000 in
theorem gX9_setDensity_X9_save : GoodIn wsX9_setDensity (wsV RX9 37 RX9 yX9_save wsX9_save) := goodIn_app (goodIn_of _ (by decide +kernel)) ggX9_setDensity_X9_save
set_option maxRecDepth 20000 in
theorem ggX9_setDensity_X6_logSetting : GoodIn wsX9_setDensity wsX6_logSetting := goodIn_r _ [133, 134, 135, 136, 31, 137, 52, 33, 138, 139, 140, 124, 141, 129, 142, 128, 143, 144, 145, 146, 126, 147, 148, 149, 150, 151, 157, 158, 159, 160, 161, 162, 163, 164, 165, 166, 167, 168, 169, 170, 171, 172, 173, 174, 175, 176, 207, 208, 209, 210, 211] (by decide +kernel) (by decide +kernel)
set_option maxRecDepth 20000 in
theorem gX9_setDensity_X6_logSetting : GoodIn wsX9_setDensity (wsV RX9 50 RX6 yX6_logSetting wsX6_logSetting) := goodIn_app (goodIn_of _ (by decide +kernel)) ggX9_setDensity_X6_logSetting
theorem dX9_setDensity_0 : decode cX9_setDensity 0 = .ok (.iload_n 1, 1) := by decide +kernel
theorem dX9_setDensity_1 : decode cX9_setDensity 1 = .ok (.bipush 6, 2) := by decide +kernel
theorem dX9_setDensity_3 : decode cX9_setDensity 3 = .ok (.invokestatic 25, 3) := by decide +kernel
theorem dX9_setDensity_6 : decode cX9_setDensity 6 = .ok (.iload_n 2, 1) := by decide +kernel
theorem dX9_setDensity_7 : decode cX9_setDensity 7 = .ok (.i2l, 1) := by decide +kernel
theorem dX9_setDensity_8 : decode cX9_setDensity 8 = .ok (.lconst 1, 1) := by decide +kernel
theorem dX9_setDensity_9 : decode cX9_setDensity 9 = .ok (.ldc2_w 68, 3) := by decide +kernel
theorem dX9_setDensity_12 : decode cX9_setDensity 12 = .ok (.invokestatic 33, 3) := by decide +kernel
theorem dX9_setDensity_15 : decode cX9_setDensity 15 = .ok (.aload_n 0, 1) := by decide +kernel
theorem dX9_setDensity_16 : decode cX9_setDensity 16 = .ok (.invokevirtual 37, 3) := by decide +kernel
theorem dX9_setDensity_19 : decode cX9_setDensity 19 = .ok (.aload_n 0, 1) := by decide +kernel
theorem dX9_setDensity_20 : decode cX9_setDensity 20 = .ok (.getfield 10, 3) := by decide +kernel
theorem dX9_setDensity_23 : decode cX9_setDensity 23 = .ok (.getfield 59, 3) := by decide +kernel
theorem dX9_setDensity_26 : decode cX9_setDensity 26 = .ok (.getfield 70, 3) := by decide +kernel
theorem dX9_setDensity_29 : decode cX9_setDensity 29 = .ok (.iload_n 1, 1) := by decide +kernel
theorem dX9_setDensity_30 : decode cX9_setDensity 30 = .ok (.iaload, 1) := by decide +kernel
theorem dX9_setDensity_31 : decode cX9_setDensity 31 = .ok (.istore_n 3, 1) := by decide +kernel
theorem dX9_setDensity_32 : decode cX9_setDensity 32 = .ok (.aload_n 0, 1) := by decide +kernel
theorem dX9_setDensity_33 : decode cX9_setDensity 33 = .ok (.getfield 10, 3) := by decide +kernel
theorem dX9_setDensity_36 : decode cX9_setDensity 36 = .ok (.getfield 59, 3) := by decide +kernel
theorem dX9_setDensity_39 : decode cX9_setDensity 39 = .ok (.getfield 70, 3) := by decide +kernel
theorem dX9_setDensity_42 : decode cX9_setDensity 42 = .ok (.iload_n 1, 1) := by decide +kernel
theorem dX9_setDensity_43 : decode cX9_setDensity 43 = .ok (.iload_n 2, 1) := by decide +kernel
theorem dX9_setDensity_44 : decode cX9_setDensity 44 = .ok (.iastore, 1) := by decide +kernel
theorem dX9_setDensity_45 : decode cX9_setDensity 45 = .ok (.aload_n 0, 1) := by decide +kernel
theorem dX9_setDensity_46 : decode cX9_setDensity 46 = .ok (.getfield 10, 3) := by decide +kernel
theorem dX9_setDensity_49 : decode cX9_setDensity 49 = .ok (.iconst 3, 1) := by decide +kernel
theorem dX9_setDensity_50 : decode cX9_setDensity 50 = .ok (.invokevirtual 50, 3) := by decide +kernel
theorem dX9_setDensity_53 : decode cX9_setDensity 53 = .ok (.iload_n 3, 1) := by decide +kernel
theorem dX9_setDensity_54 : decode cX9_setDensity 54 = .ok (.ireturn, 1) := by decide +kernel
set_option maxRecDepth 20000 in
theorem ggX9_setFactor_X9_needIndex : GoodIn wsX9_setFactor wsX9_needIndex := goodIn_ca (goodIn_r _ [9, 10, 11] (by decide +kernel) (by decide +kernel)) (goodIn_sub (fun _ h => List.mem_cons_of_mem _ (List.mem_append_left _ (List.mem_append_right _ h))) (by decide +kernel))
set_option maxRecDepth 20000 in
theorem gX9_setFactor_X9_needIndex : GoodIn wsX9_setFactor (va_wsS RX9 25 yX9_needIndex wsX9_needIndex) := goodIn_app (goodIn_of _ (by decide +kernel)) ggX9_setFactor_X9_needIndex
set_option maxRecDepth 20000 in
theorem ggX9_setFactor_X9_needBetween : GoodIn wsX9_setFactor wsX9_needBetween := goodIn_ca (goodIn_r _ [14, 15, 16] (by decide +kernel) (by decide +kernel)) (goodIn_sub (fun _ h => List.mem_cons_of_mem _ (List.mem_append_right _ h)) (by decide +kernel))
set_option maxRecDepth 20000 in
theorem gX9_setFactor_X9_needBetween : GoodIn wsX9_setFactor (va_wsS RX9 33 yX9_needBetween wsX9_needBetween) := goodIn_app (goodIn_of _ (by decide +kernel)) ggX9_setFactor_X9_needBetween
set_option maxRecDepth 20000 in
theorem ggX9_setFactor_X9_save : GoodIn wsX9_setFactor wsX9_save := goodIn_r _ [20, 21, 3, 22, 23, 24, 25, 26, 27, 28, 29, 30, 31, 32, 33, 34, 35, 36, 37, 38, 39, 40, 41, 42, 43, 44, 45, 46, 47, 48, 49, 50, 51, 52, 53, 54, 55, 56, 57, 58, 59, 60, 61, 62, 63, 64, 65, 66, 67, 68, 69, 70, 71, 72, 73, 74, 75, 76, 77, 78, 79, 80, 81, 82, 83, 84, 85, 86, 87, 88, 89, 90, 91, 92, 93, 94, 95, 96, 97, 98, 99, 100, 101, 102, 103, 104, 105, 106, 107, 108, 109, 110, 111, 112, 113, 114, 115, 116, 117, 118, 119, 120, 121, 122, 123, 124, 125, 126, 127, 128, 129, 130, 153, 154, 155, 156, 157, 158, 159, 160, 161, 162, 163, 164, 165, 166, 167, 168, 169, 170, 171, 172, 173, 174, 175, 176, 177, 182, 183, 184, 185, 186, 187, 178, 179, 180, 181, 188, 189, 190, 191, 192, 193, 194, 195, 196, 197, 198, 199, 200, 201, 202, 203, 204, 205, 206, 207, 208, 209, 210, 211, 212] (by decide +kernel) (by decide +kernel)
set_option maxRecDepth 20000 in
theorem gX9_setFactor_X9_save : GoodIn wsX9_setFactor (wsV RX9 37 RX9 yX9_save wsX9_save) := goodIn_app (goodIn_of _ (by decide +kernel)) ggX9_setFactor_X9_save
set_option maxRecDepth 20000 in
theorem ggX9_setFactor_X6_logSetting : GoodIn wsX9_setFactor wsX6_logSetting := goodIn_r _ [134, 135, 136, 137, 32, 138, 53, 34, 139, 140, 141, 125, 142, 130, 143, 129, 144, 145, 146, 147, 127, 148, 149, 150, 151, 152, 158, 159, 160, 161, 162, 163, 164, 165, 166, 167, 168, 169, 170, 171, 172, 173, 174, 175, 176, 177, 208, 209, 210, 211, 212] (by decide +kernel) (by decide +kernel)
set_option maxRecDepth 20000 in
theorem gX9_setFactor_X6_logSetting : GoodIn wsX9_setFactor (wsV RX9 50 RX6 yX6_logSetting wsX6_logSetting) := goodIn_app (goodIn_of _ (by decide +kernel)) ggX9_setFactor_X6_logSetting
theorem dX9_setFactor_0 : decode cX9_setFactor 0 = .ok (.iload_n 1, 1) := by decide +kernel
theorem dX9_setFactor_1 : decode cX9_setFactor 1 = .ok (.iconst 5, 1) := by decide +kernel
theorem dX9_setFactor_2 : decode cX9_setFactor 2 = .ok (.invokestatic 25, 3) := by decide +kernel
theorem dX9_setFactor_5 : decode cX9_setFactor 5 = .ok (.iload_n 2, 1) := by decide +kernel
theorem dX9_setFactor_6 : decode cX9_setFactor 6 = .ok (.i2l, 1) := by decide +kernel
theorem dX9_setFactor_7 : decode cX9_setFactor 7 = .ok (.ldc2_w 74, 3) := by decide +kernel
theorem dX9_setFactor_10 : decode cX9_setFactor 10 = .ok (.ldc2_w 76, 3) := by decide +kernel
theorem dX9_setFactor_13 : decode cX9_setFactor 13 = .ok (.invokestatic 33, 3) := by decide +kernel
theorem dX9_setFactor_16 : decode cX9_setFactor 16 = .ok (.aload_n 0, 1) := by decide +kernel
theorem dX9_setFactor_17 : decode cX9_setFactor 17 = .ok (.invokevirtual 37, 3) := by decide +kernel
theorem dX9_setFactor_20 : decode cX9_setFactor 20 = .ok (.aload_n 0, 1) := by decide +kernel
theorem dX9_setFactor_21 : decode cX9_setFactor 21 = .ok (.getfield 10, 3) := by decide +kernel
theorem dX9_setFactor_24 : decode cX9_setFactor 24 = .ok (.getfield 59, 3) := by decide +kernel
theorem dX9_setFactor_27 : decode cX9_setFactor 27 = .ok (.getfield 78, 3) := by decide +kernel
theorem dX9_setFactor_30 : decode cX9_setFactor 30 = .ok (.iload_n 1, 1) := by decide +kernel
theorem dX9_setFactor_31 : decode cX9_setFactor 31 = .ok (.iaload, 1) := by decide +kernel
theorem dX9_setFactor_32 : decode cX9_setFactor 32 = .ok (.istore_n 3, 1) := by decide +kernel
theorem dX9_setFactor_33 : decode cX9_setFactor 33 = .ok (.aload_n 0, 1) := by decide +kernel
theorem dX9_setFactor_34 : decode cX9_setFactor 34 = .ok (.getfield 10, 3) := by decide +kernel
theorem dX9_setFactor_37 : decode cX9_setFactor 37 = .ok (.getfield 59, 3) := by decide +kernel
theorem dX9_setFactor_40 : decode cX9_setFactor 40 = .ok (.getfield 78, 3) := by decide +kernel
theorem dX9_setFactor_43 : decode cX9_setFactor 43 = .ok (.iload_n 1, 1) := by decide +kernel
theorem dX9_setFactor_44 : decode cX9_setFactor 44 = .ok (.iload_n 2, 1) := by decide +kernel
theorem dX9_setFactor_45 : decode cX9_setFactor 45 = .ok (.iastore, 1) := by decide +kernel
theorem dX9_setFactor_46 : decode cX9_setFactor 46 = .ok (.aload_n 0, 1) := by decide +kernel
theorem dX9_setFactor_47 : decode cX9_setFactor 47 = .ok (.getfield 10, 3) := by decide +kernel
theorem dX9_setFactor_50 : decode cX9_setFactor 50 = .ok (.iconst 4, 1) := by decide +kernel
theorem dX9_setFactor_51 : decode cX9_setFactor 51 = .ok (.invokevirtual 50, 3) := by decide +kernel
theorem dX9_setFactor_54 : decode cX9_setFactor 54 = .ok (.iload_n 3, 1) := by decide +kernel
theorem dX9_setFactor_55 : decode cX9_setFactor 55 = .ok (.ireturn, 1) := by decide +kernel
set_option maxRecDepth 20000 in
theorem ggX9_setMeter_X9_needBetween : GoodIn wsX9_setMeter wsX9_needBetween := goodIn_ca (goodIn_r _ [8, 9, 10] (by decide +kernel) (by decide +kernel)) (goodIn_sub (fun _ h => List.mem_cons_of_mem _ (List.mem_append_right _ h)) (by decide +kernel))
set_option maxRecDepth 20000 in
theorem gX9_setMeter_X9_needBetween : GoodIn wsX9_setMeter (va_wsS RX9 33 yX9_needBetween wsX9_needBetween) := goodIn_app (goodIn_of _ (by decide +kernel)) ggX9_setMeter_X9_needBetween
set_option maxRecDepth 20000 in
theorem ggX9_setMeter_X9_save : GoodIn wsX9_setMeter wsX9_save := goodIn_r _ [14, 15, 2, 16, 17, 18, 19, 20, 21, 22, 23, 24, 25, 26, 27, 28, 29, 30, 31, 32, 33, 34, 35, 36, 37, 38, 39, 40, 41, 42, 43, 44, 45, 46, 47, 48, 49, 50, 51, 52, 53, 54, 55, 56, 57, 58, 59, 60, 61, 62, 63, 64, 65, 66, 67, 68, 69, 70, 71, 72, 73, 74, 75, 76, 77, 78, 79, 80, 81, 82, 83, 84, 85, 86, 87, 88, 89, 90, 91, 92, 93, 94, 95, 96, 97, 98, 99, 100, 101, 102, 103, 104, 105, 106, 107, 108, 109, 110, 111, 112, 113, 114, 115, 116, 117, 118, 119, 120, 121, 122, 123, 124, 147, 148, 149, 150, 151, 152, 153, 154, 155, 156, 157, 158, 159, 160, 161, 162, 163, 164, 165, 166, 167, 168, 169, 170, 171, 176, 177, 178, 179, 180, 181, 172, 173, 174, 175, 182, 183, 184, 185, 186, 187, 188, 189, 190, 191, 192, 193, 194, 195, 196, 197, 198, 199, 200, 201, 202, 203, 204, 205, 206] (by decide +kernel) (by decide +kernel)
set_option maxRecDepth 20000 in
theorem gX9_setMeter_X9_save : GoodIn wsX9_setMeter (wsV RX9 37 RX9 yX9_save wsX9_save) := goodIn_app (goodIn_of _ (by decide +kernel)) ggX9_setMeter_X9_save
set_option maxRecDepth 20000 in
theorem ggX9_setMeter_X6_logSetting : GoodIn wsX9_setMeter wsX6_logSetting := goodIn_r _ [128, 129, 130, 131, 26, 132, 47, 28, 133, 134, 135, 119, 136, 124, 137, 123, 138, 139, 140, 141, 121, 142, 143, 144, 145, 146, 152, 153, 154, 155, 156, 157, 158, 159, 160, 161, 162, 163, 164, 165, 166, 167, 168, 169, 170, 171, 202, 203, 204, 205, 206] (by decide +kernel) (by decide +kernel)
set_option maxRecDepth 20000 in
theorem gX9_setMeter_X6_logSetting : GoodIn wsX9_setMeter (wsV RX9 50 RX6 yX6_logSetting wsX6_logSetting) := goodIn_app (goodIn_of _ (by decide +kernel)) ggX9_setMeter_X6_logSetting
theorem dX9_setMeter_0 : decode cX9_setMeter 0 = .ok (.iload_n 1, 1) := by decide +kernel
theorem dX9_setMeter_1 : decode cX9_setMeter 1 = .ok (.i2l, 1) := by decide +kernel
theorem dX9_setMeter_2 : decode cX9_setMeter 2 = .ok (.lconst 1, 1) := by decide +kernel
theorem dX9_setMeter_3 : decode cX9_setMeter 3 = .ok (.ldc2_w 81, 3) := by decide +kernel
theorem dX9_setMeter_6 : decode cX9_setMeter 6 = .ok (.invokestatic 33, 3) := by decide +kernel
theorem dX9_setMeter_9 : decode cX9_setMeter 9 = .ok (.aload_n 0, 1) := by decide +kernel
theorem dX9_setMeter_10 : decode cX9_setMeter 10 = .ok (.invokevirtual 37, 3) := by decide +kernel
theorem dX9_setMeter_13 : decode cX9_setMeter 13 = .ok (.aload_n 0, 1) := by decide +kernel
theorem dX9_setMeter_14 : decode cX9_setMeter 14 = .ok (.getfield 10, 3) := by decide +kernel
theorem dX9_setMeter_17 : decode cX9_setMeter 17 = .ok (.getfield 59, 3) := by decide +kernel
theorem dX9_setMeter_20 : decode cX9_setMeter 20 = .ok (.getfield 83, 3) := by decide +kernel
theorem dX9_setMeter_23 : decode cX9_setMeter 23 = .ok (.istore_n 2, 1) := by decide +kernel
theorem dX9_setMeter_24 : decode cX9_setMeter 24 = .ok (.aload_n 0, 1) := by decide +kernel
theorem dX9_setMeter_25 : decode cX9_setMeter 25 = .ok (.getfield 10, 3) := by decide +kernel
theorem dX9_setMeter_28 : decode cX9_setMeter 28 = .ok (.getfield 59, 3) := by decide +kernel
theorem dX9_setMeter_31 : decode cX9_setMeter 31 = .ok (.iload_n 1, 1) := by decide +kernel
theorem dX9_setMeter_32 : decode cX9_setMeter 32 = .ok (.putfield 83, 3) := by decide +kernel
theorem dX9_setMeter_35 : decode cX9_setMeter 35 = .ok (.aload_n 0, 1) := by decide +kernel
theorem dX9_setMeter_36 : decode cX9_setMeter 36 = .ok (.getfield 10, 3) := by decide +kernel
theorem dX9_setMeter_39 : decode cX9_setMeter 39 = .ok (.iconst 5, 1) := by decide +kernel
theorem dX9_setMeter_40 : decode cX9_setMeter 40 = .ok (.invokevirtual 50, 3) := by decide +kernel
theorem dX9_setMeter_43 : decode cX9_setMeter 43 = .ok (.iload_n 2, 1) := by decide +kernel
theorem dX9_setMeter_44 : decode cX9_setMeter 44 = .ok (.ireturn, 1) := by decide +kernel
set_option maxRecDepth 20000 in
theorem ggX9_setCutoff_X9_needBetween : GoodIn wsX9_setCutoff wsX9_needBetween := goodIn_ca (goodIn_r _ [9, 10, 11] (by decide +kernel) (by decide +kernel)) (goodIn_sub (fun _ h => List.mem_cons_of_mem _ (List.mem_append_right _ h)) (by decide +kernel))
set_option maxRecDepth 20000 in
theorem gX9_setCutoff_X9_needBetween : GoodIn wsX9_setCutoff (va_wsS RX9 33 yX9_needBetween wsX9_needBetween) := goodIn_app (goodIn_of _ (by decide +kernel)) ggX9_setCutoff_X9_needBetween
set_option maxRecDepth 20000 in
theorem ggX9_setCutoff_X9_save : GoodIn wsX9_setCutoff wsX9_save := goodIn_r _ [15, 16, 2, 17, 18, 19, 20, 21, 22, 23, 24, 25, 26, 27, 28, 29, 30, 31, 32, 33, 34, 35, 36, 37, 38, 39, 40, 41, 42, 43, 44, 45, 46, 47, 48, 49, 50, 51, 52, 53, 54, 55, 56, 57, 58, 59, 60, 61, 62, 63, 64, 65, 66, 67, 68, 69, 70, 71, 72, 73, 74, 75, 76, 77, 78, 79, 80, 81, 82, 83, 84, 85, 86, 87, 88, 89, 90, 91, 92, 93, 94, 95, 96, 97, 98, 99, 100, 101, 102, 103, 104, 105, 106, 107, 108, 109, 110, 111, 112, 113, 114, 115, 116, 117, 118, 119, 120, 121, 122, 123, 124, 125, 148, 149, 150, 151, 152, 153, 154, 155, 156, 157, 158, 159, 160, 161, 162, 163, 164, 165, 166, 167, 168, 169, 170, 171, 172, 176, 177, 178, 179, 180, 181, 182, 183, 184, 185, 173, 174, 175, 186, 187, 188, 189, 190, 191, 192, 193, 194, 195, 196, 197, 198, 199, 200, 201, 202, 203, 204, 205, 206, 207] (by decide +kernel) (by decide +kernel)
set_option maxRecDepth 20000 in
theorem gX9_setCutoff_X9_save : GoodIn wsX9_setCutoff (wsV RX9 37 RX9 yX9_save wsX9_save) := goodIn_app (goodIn_of _ (by decide +kernel)) ggX9_setCutoff_X9_save
set_option maxRecDepth 20000 in
theorem ggX9_setCutoff_X6_logSetting : GoodIn wsX9_setCutoff wsX6_logSetting := goodIn_r _ [129, 130, 131, 132, 27, 133, 48, 29, 134, 135, 136, 120, 137, 125, 138, 124, 139, 140, 141, 142, 122, 143, 144, 145, 146, 147, 153, 154, 155, 156, 157, 158, 159, 160, 161, 162, 163, 164, 165, 166, 167, 168, 169, 170, 171, 172, 203, 204, 205, 206, 207] (by decide +kernel) (by decide +kernel)
set_option maxRecDepth 20000 in
theorem gX9_setCutoff_X6_logSetting : GoodIn wsX9_setCutoff (wsV RX9 50 RX6 yX6_logSetting wsX6_logSetting) := goodIn_app (goodIn_of _ (by decide +kernel)) ggX9_setCutoff_X6_logSetting
theorem dX9_setCutoff_0 : decode cX9_setCutoff 0 = .ok (.iload_n 2, 1) := by decide +kernel
theorem dX9_setCutoff_1 : decode cX9_setCutoff 1 = .ok (.i2l, 1) := by decide +kernel
theorem dX9_setCutoff_2 : decode cX9_setCutoff 2 = .ok (.lconst 0, 1) := by decide +kernel
theorem dX9_setCutoff_3 : decode cX9_setCutoff 3 = .ok (.ldc2_w 81, 3) := by decide +kernel
theorem dX9_setCutoff_6 : decode cX9_setCutoff 6 = .ok (.invokestatic 33, 3) := by decide +kernel
theorem dX9_setCutoff_9 : decode cX9_setCutoff 9 = .ok (.iload_n 1, 1) := by decide +kernel
theorem dX9_setCutoff_10 : decode cX9_setCutoff 10 = .ok (.i2l, 1) := by decide +kernel
theorem dX9_setCutoff_11 : decode cX9_setCutoff 11 = .ok (.lconst 0, 1) := by decide +kernel
theorem dX9_setCutoff_12 : decode cX9_setCutoff 12 = .ok (.iload_n 2, 1) := by decide +kernel
theorem dX9_setCutoff_13 : decode cX9_setCutoff 13 = .ok (.i2l, 1) := by decide +kernel
theorem dX9_setCutoff_14 : decode cX9_setCutoff 14 = .ok (.invokestatic 33, 3) := by decide +kernel
theorem dX9_setCutoff_17 : decode cX9_setCutoff 17 = .ok (.aload_n 0, 1) := by decide +kernel
theorem dX9_setCutoff_18 : decode cX9_setCutoff 18 = .ok (.invokevirtual 37, 3) := by decide +kernel
theorem dX9_setCutoff_21 : decode cX9_setCutoff 21 = .ok (.aload_n 0, 1) := by decide +kernel
theorem dX9_setCutoff_22 : decode cX9_setCutoff 22 = .ok (.getfield 10, 3) := by decide +kernel
theorem dX9_setCutoff_25 : decode cX9_setCutoff 25 = .ok (.getfield 86, 3) := by decide +kernel
theorem dX9_setCutoff_28 : decode cX9_setCutoff 28 = .ok (.getfield 90, 3) := by decide +kernel
theorem dX9_setCutoff_31 : decode cX9_setCutoff 31 = .ok (.istore_n 3, 1) := by decide +kernel
theorem dX9_setCutoff_32 : decode cX9_setCutoff 32 = .ok (.aload_n 0, 1) := by decide +kernel
theorem dX9_setCutoff_33 : decode cX9_setCutoff 33 = .ok (.getfield 10, 3) := by decide +kernel
theorem dX9_setCutoff_36 : decode cX9_setCutoff 36 = .ok (.getfield 86, 3) := by decide +kernel
theorem dX9_setCutoff_39 : decode cX9_setCutoff 39 = .ok (.iload_n 1, 1) := by decide +kernel
theorem dX9_setCutoff_40 : decode cX9_setCutoff 40 = .ok (.putfield 90, 3) := by decide +kernel
theorem dX9_setCutoff_43 : decode cX9_setCutoff 43 = .ok (.aload_n 0, 1) := by decide +kernel
theorem dX9_setCutoff_44 : decode cX9_setCutoff 44 = .ok (.getfield 10, 3) := by decide +kernel
theorem dX9_setCutoff_47 : decode cX9_setCutoff 47 = .ok (.getfield 86, 3) := by decide +kernel
theorem dX9_setCutoff_50 : decode cX9_setCutoff 50 = .ok (.iload_n 2, 1) := by decide +kernel
theorem dX9_setCutoff_51 : decode cX9_setCutoff 51 = .ok (.putfield 95, 3) := by decide +kernel
theorem dX9_setCutoff_54 : decode cX9_setCutoff 54 = .ok (.aload_n 0, 1) := by decide +kernel
theorem dX9_setCutoff_55 : decode cX9_setCutoff 55 = .ok (.getfield 10, 3) := by decide +kernel
theorem dX9_setCutoff_58 : decode cX9_setCutoff 58 = .ok (.bipush 6, 2) := by decide +kernel
theorem dX9_setCutoff_60 : decode cX9_setCutoff 60 = .ok (.invokevirtual 50, 3) := by decide +kernel
theorem dX9_setCutoff_63 : decode cX9_setCutoff 63 = .ok (.iload_n 3, 1) := by decide +kernel
theorem dX9_setCutoff_64 : decode cX9_setCutoff 64 = .ok (.ireturn, 1) := by decide +kernel
set_option maxRecDepth 20000 in
theorem ggX9_setContractHour_X9_needBetween : GoodIn wsX9_setContractHour wsX9_needBetween := goodIn_ca (goodIn_r _ [7, 8, 9] (by decide +kernel) (by decide +kernel)) (goodIn_sub (fun _ h => List.mem_cons_of_mem _ (List.mem_append_right _ h)) (by decide +kernel))
set_option maxRecDepth 20000 in
theorem gX9_setContractHour_X9_needBetween : GoodIn wsX9_setContractHour (va_wsS RX9 33 yX9_needBetween wsX9_needBetween) := goodIn_app (goodIn_of _ (by decide +kernel)) ggX9_setContractHour_X9_needBetween
set_option maxRecDepth 20000 in
theorem ggX9_setContractHour_X9_save : GoodIn wsX9_setContractHour wsX9_save := goodIn_r _ [13, 14, 2, 15, 16, 17, 18, 19, 20, 21, 22, 23, 24, 25, 26, 27, 28, 29, 30, 31, 32, 33, 34, 35, 36, 37, 38, 39, 40, 41, 42, 43, 44, 45, 46, 47, 48, 49, 50, 51, 52, 53, 54, 55, 56, 57, 58, 59, 60, 61, 62, 63, 64, 65, 66, 67, 68, 69, 70, 71, 72, 73, 74, 75, 76, 77, 78, 79, 80, 81, 82, 83, 84, 85, 86, 87, 88, 89, 90, 91, 92, 93, 94, 95, 96, 97, 98, 99, 100, 101, 102, 103, 104, 105, 106, 107, 108, 109, 110, 111, 112, 113, 114, 115, 116, 117, 118, 119, 120, 121, 122, 123, 146, 147, 148, 149, 150, 151, 152, 153, 154, 155, 156, 157, 158, 159, 160, 161, 162, 163, 164, 165, 166, 167, 168, 169, 170, 171, 172, 173, 174, 175, 176, 177, 178, 179, 180, 181, 182, 183, 184, 185, 186, 187, 188, 189, 190, 191, 192, 193, 194, 195, 196, 197, 198, 199, 200, 201, 202, 203, 204, 205] (by decide +kernel) (by decide +kernel)
set_option maxRecDepth 20000 in
theorem gX9_setContractHour_X9_save : GoodIn wsX9_setContractHour (wsV RX9 37 RX9 yX9_save wsX9_save) := goodIn_app (goodIn_of _ (by decide +kernel)) ggX9_setContractHour_X9_save
set_option maxRecDepth 20000 in
theorem ggX9_setContractHour_X6_logSetting : GoodIn wsX9_setContractHour wsX6_logSetting := goodIn_r _ [127, 128, 129, 130, 25, 131, 46, 27, 132, 133, 134, 118, 135, 123, 136, 122, 137, 138, 139, 140, 120, 141, 142, 143, 144, 145, 151, 152, 153, 154, 155, 156, 157, 158, 159, 160, 161, 162, 163, 164, 165, 166, 167, 168, 169, 170, 201, 202, 203, 204, 205] (by decide +kernel) (by decide +kernel)
set_option maxRecDepth 20000 in
theorem gX9_setContractHour_X6_logSetting : GoodIn wsX9_setContractHour (wsV RX9 50 RX6 yX6_logSetting wsX6_logSetting) := goodIn_app (goodIn_of _ (by decide +kernel)) ggX9_setContractHour_X6_logSetting
theorem dX9_setContractHour_0 : decode cX9_setContractHour 0 = .ok (.iload_n 1, 1) := by decide +kernel
theorem dX9_setContractHour_1 : decode cX9_setContractHour 1 = .ok (.i2l, 1) := by decide +kernel
theorem dX9_setContractHour_2 : decode cX9_setContractHour 2 = .ok (.lconst 0, 1) := by decide +kernel
theorem dX9_setContractHour_3 : decode cX9_setContractHour 3 = .ok (.ldc2_w 98, 3) := by decide +kernel
theorem dX9_setContractHour_6 : decode cX9_setContractHour 6 = .ok (.invokestatic 33, 3) := by decide +kernel
theorem dX9_setContractHour_9 : decode cX9_setContractHour 9 = .ok (.aload_n 0, 1) := by decide +kernel
theorem dX9_setContractHour_10 : decode cX9_setContractHour 10 = .ok (.invokevirtual 37, 3) := by decide +kernel
theorem dX9_setContractHour_13 : decode cX9_setContractHour 13 = .ok (.aload_n 0, 1) := by decide +kernel
theorem dX9_setContractHour_14 : decode cX9_setContractHour 14 = .ok (.getfield 10, 3) := by decide +kernel
theorem dX9_setContractHour_17 : decode cX9_setContractHour 17 = .ok (.getfield 100, 3) := by decide +kernel
theorem dX9_setContractHour_20 : decode cX9_setContractHour 20 = .ok (.istore_n 2, 1) := by decide +kernel
theorem dX9_setContractHour_21 : decode cX9_setContractHour 21 = .ok (.aload_n 0, 1) := by decide +kernel
theorem dX9_setContractHour_22 : decode cX9_setContractHour 22 = .ok (.getfield 10, 3) := by decide +kernel
theorem dX9_setContractHour_25 : decode cX9_setContractHour 25 = .ok (.iload_n 1, 1) := by decide +kernel
theorem dX9_setContractHour_26 : decode cX9_setContractHour 26 = .ok (.putfield 100, 3) := by decide +kernel
theorem dX9_setContractHour_29 : decode cX9_setContractHour 29 = .ok (.aload_n 0, 1) := by decide +kernel
theorem dX9_setContractHour_30 : decode cX9_setContractHour 30 = .ok (.getfield 10, 3) := by decide +kernel
theorem dX9_setContractHour_33 : decode cX9_setContractHour 33 = .ok (.bipush 7, 2) := by decide +kernel
theorem dX9_setContractHour_35 : decode cX9_setContractHour 35 = .ok (.invokevirtual 50, 3) := by decide +kernel
theorem dX9_setContractHour_38 : decode cX9_setContractHour 38 = .ok (.iload_n 2, 1) := by decide +kernel
theorem dX9_setContractHour_39 : decode cX9_setContractHour 39 = .ok (.ireturn, 1) := by decide +kernel
set_option maxRecDepth 20000 in
theorem ggX9_setRaw_X9_needIndex : GoodIn wsX9_setRaw wsX9_needIndex := goodIn_ca (goodIn_r _ [7, 8, 9] (by decide +kernel) (by decide +kernel)) (goodIn_sub (fun _ h => List.mem_cons_of_mem _ (List.mem_append_left _ (List.mem_append_right _ h))) (by decide +kernel))
set_option maxRecDepth 20000 in
theorem gX9_setRaw_X9_needIndex : GoodIn wsX9_setRaw (va_wsS RX9 25 yX9_needIndex wsX9_needIndex) := goodIn_app (goodIn_of _ (by decide +kernel)) ggX9_setRaw_X9_needIndex
set_option maxRecDepth 20000 in
theorem ggX9_setRaw_X9_needBetween : GoodIn wsX9_setRaw wsX9_needBetween := goodIn_ca (goodIn_r _ [12, 13, 14] (by decide +kernel) (by decide +kernel)) (goodIn_sub (fun _ h => List.mem_cons_of_mem _ (List.mem_append_right _ h)) (by decide +kernel))
set_option maxRecDepth 20000 in
theorem gX9_setRaw_X9_needBetween : GoodIn wsX9_setRaw (va_wsS RX9 33 yX9_needBetween wsX9_needBetween) := goodIn_app (goodIn_of _ (by decide +kernel)) ggX9_setRaw_X9_needBetween
set_option maxRecDepth 20000 in
theorem ggX9_setRaw_X9_save : GoodIn wsX9_setRaw wsX9_save := goodIn_r _ [18, 19, 2, 20, 21, 22, 23, 24, 25, 26, 27, 28, 29, 30, 31, 32, 33, 34, 35, 36, 37, 38, 39, 40, 41, 42, 43, 44, 45, 46, 47, 48, 49, 50, 51, 52, 53, 54, 55, 56, 57, 58, 59, 60, 61, 62, 63, 64, 65, 66, 67, 68, 69, 70, 71, 72, 73, 74, 75, 76, 77, 78, 79, 80, 81, 82, 83, 84, 85, 86, 87, 88, 89, 90, 91, 92, 93, 94, 95, 96, 97, 98, 99, 100, 101, 102, 103, 104, 105, 106, 107, 108, 109, 110, 111, 112, 113, 114, 115, 116, 117, 118, 119, 120, 121, 122, 123, 124, 125, 126, 127, 128, 143, 144, 145, 146, 147, 154, 155, 156, 157, 158, 159, 160, 161, 162, 163, 164, 165, 166, 167, 168, 169, 170, 171, 172, 173, 148, 149, 150, 151, 152, 153, 174, 175, 176, 177, 178, 179, 180, 181, 182, 183, 184, 185, 186, 187, 188, 189, 190, 191, 192, 193, 194, 195, 196, 197, 198, 199, 200, 201, 202] (by decide +kernel) (by decide +kernel)
set_option maxRecDepth 20000 in
theorem gX9_setRaw_X9_save : GoodIn wsX9_setRaw (wsV RX9 37 RX9 yX9_save wsX9_save) := goodIn_app (goodIn_of _ (by decide +kernel)) ggX9_setRaw_X9_save
set_option maxRecDepth 20000 in
theorem ggX9_setRaw_X6_transmitterAt : GoodIn wsX9_setRaw wsX6_transmitterAt := goodIn_r _ [132, 34, 35, 36, 37, 154, 155, 156, 157, 158, 159, 160, 161, 162, 163, 164, 165, 166, 167, 168, 169, 170, 171, 172, 173] (by decide +kernel) (by decide +kernel)
set_option maxRecDepth 20000 in
theorem gX9_setRaw_X6_transmitterAt : GoodIn wsX9_setRaw (wsV RX9 40 RX6 yX6_transmitterAt wsX6_transmitterAt) := goodIn_app (goodIn_of _ (by decide +kernel)) ggX9_setRaw_X6_transmitterAt
set_option maxRecDepth 20000 in
theorem ggX9_setRaw_X8_reading : GoodIn wsX9_setRaw wsX8_reading := goodIn_r _ [136, 137, 57, 59, 138, 139, 140, 141, 142, 148, 149, 150, 151, 152, 153] (by decide +kernel) (by decide +kernel)
set_option maxRecDepth 20000 in
theorem gX9_setRaw_X8_reading : GoodIn wsX9_setRaw (wsV RX9 108 RX8 yX8_reading wsX8_reading) := goodIn_app (goodIn_of _ (by decide +kernel)) ggX9_setRaw_X8_reading
theorem dX9_setRaw_0 : decode cX9_setRaw 0 = .ok (.iload_n 1, 1) := by decide +kernel
theorem dX9_setRaw_1 : decode cX9_setRaw 1 = .ok (.iconst 4, 1) := by decide +kernel
theorem dX9_setRaw_2 : decode cX9_setRaw 2 = .ok (.invokestatic 25, 3) := by decide +kernel
theorem dX9_setRaw_5 : decode cX9_setRaw 5 = .ok (.iload_n 2, 1) := by decide +kernel
theorem dX9_setRaw_6 : decode cX9_setRaw 6 = .ok (.i2l, 1) := by decide +kernel
theorem dX9_setRaw_7 : decode cX9_setRaw 7 = .ok (.lconst 0, 1) := by decide +kernel
theorem dX9_setRaw_8 : decode cX9_setRaw 8 = .ok (.ldc2_w 103, 3) := by decide +kernel
theorem dX9_setRaw_11 : decode cX9_setRaw 11 = .ok (.invokestatic 33, 3) := by decide +kernel
theorem dX9_setRaw_14 : decode cX9_setRaw 14 = .ok (.aload_n 0, 1) := by decide +kernel
theorem dX9_setRaw_15 : decode cX9_setRaw 15 = .ok (.invokevirtual 37, 3) := by decide +kernel
theorem dX9_setRaw_18 : decode cX9_setRaw 18 = .ok (.aload_n 0, 1) := by decide +kernel
theorem dX9_setRaw_19 : decode cX9_setRaw 19 = .ok (.getfield 10, 3) := by decide +kernel
theorem dX9_setRaw_22 : decode cX9_setRaw 22 = .ok (.iload_n 1, 1) := by decide +kernel
theorem dX9_setRaw_23 : decode cX9_setRaw 23 = .ok (.invokevirtual 40, 3) := by decide +kernel
theorem dX9_setRaw_26 : decode cX9_setRaw 26 = .ok (.astore_n 3, 1) := by decide +kernel
theorem dX9_setRaw_27 : decode cX9_setRaw 27 = .ok (.aload_n 3, 1) := by decide +kernel
theorem dX9_setRaw_28 : decode cX9_setRaw 28 = .ok (.iload_n 2, 1) := by decide +kernel
theorem dX9_setRaw_29 : decode cX9_setRaw 29 = .ok (.putfield 105, 3) := by decide +kernel
theorem dX9_setRaw_32 : decode cX9_setRaw 32 = .ok (.aload_n 3, 1) := by decide +kernel
theorem dX9_setRaw_33 : decode cX9_setRaw 33 = .ok (.invokevirtual 108, 3) := by decide +kernel
theorem dX9_setRaw_36 : decode cX9_setRaw 36 = .ok (.ireturn, 1) := by decide +kernel
set_option maxRecDepth 20000 in
theorem ggX9_run_X9_needBetween : GoodIn wsX9_run wsX9_needBetween := goodIn_ca (goodIn_r _ [7, 8, 9] (by decide +kernel) (by decide +kernel)) (goodIn_sub (fun _ h => List.mem_cons_of_mem _ (List.mem_append_right _ h)) (by decide +kernel))
set_option maxRecDepth 20000 in
theorem gX9_run_X9_needBetween : GoodIn wsX9_run (va_wsS RX9 33 yX9_needBetween wsX9_needBetween) := goodIn_app (goodIn_of _ (by decide +kernel)) ggX9_run_X9_needBetween
set_option maxRecDepth 20000 in
theorem ggX9_run_X9_save : GoodIn wsX9_run wsX9_save := goodIn_r _ [13, 14, 2, 15, 16, 17, 18, 19, 20, 21, 22, 23, 24, 25, 26, 27, 28, 29, 30, 31, 32, 33, 34, 35, 36, 37, 38, 39, 40, 41, 42, 43, 44, 45, 46, 47, 48, 49, 50, 51, 52, 53, 54, 55, 56, 57, 58, 59, 60, 61, 62, 63, 64, 65, 66, 67, 68, 69, 70, 71, 72, 73, 74, 75, 76, 77, 78, 79, 80, 81, 82, 83, 84, 85, 86, 87, 88, 89, 90, 91, 92, 93, 94, 95, 96, 97, 98, 99, 100, 101, 102, 103, 104, 105, 106, 107, 108, 109, 110, 111, 112, 113, 114, 115, 116, 117, 118, 119, 120, 121, 122, 123, 320, 321, 322, 323, 324, 325, 326, 327, 328, 329, 330, 331, 332, 333, 334, 335, 336, 337, 338, 339, 340, 341, 342, 343, 344, 345, 346, 347, 348, 349, 350, 351, 352, 353, 354, 355, 356, 357, 358, 359, 360, 361, 362, 363, 364, 365, 366, 367, 368, 369, 370, 371, 372, 373, 374, 375, 376, 377, 378, 379] (by decide +kernel) (by decide +kernel)
set_option maxRecDepth 20000 in
theorem gX9_run_X9_save : GoodIn wsX9_run (wsV RX9 37 RX9 yX9_save wsX9_save) := goodIn_app (goodIn_of _ (by decide +kernel)) ggX9_run_X9_save
set_option maxRecDepth 20000 in
theorem ggX9_run_X6_passSecond : GoodIn wsX9_run wsX6_passSecond := goodIn_r _ [127, 27, 37, 36, 35, 31, 128, 38, 39, 40, 129, 130, 131, 132, 25, 133, 134, 135, 136, 137, 138, 29, 30, 32, 139, 140, 141, 50, 142, 54, 143, 144, 145, 146, 46, 147, 148, 149, 118, 150, 123, 151, 122, 152, 153, 154, 155, 120, 156, 157, 158, 159, 160, 161, 162, 163, 164, 55, 53, 165, 166, 167, 168, 169, 52, 170, 171, 172, 173, 174, 175, 176, 177, 178, 33, 179, 180, 181, 182, 183, 184, 185, 186, 187, 188, 34, 189, 190, 20, 191, 192, 193, 194, 195, 196, 197, 198, 199, 200, 201, 202, 60, 203, 62, 64, 204, 205, 206, 207, 208, 209, 210, 211, 212, 213, 214, 215, 216, 217, 218, 219, 220, 63, 221, 222, 69, 223, 224, 225, 226, 227, 228, 229, 230, 231, 232, 233, 73, 234, 77, 75, 76, 235, 236, 237, 238, 239, 41, 240, 241, 242, 243, 244, 245, 81, 246, 87, 85, 247, 248, 249, 250, 84, 88, 251, 252, 253, 254, 86, 255, 256, 257, 258, 42, 259, 260, 261, 262, 263, 264, 265, 266, 267, 268, 269, 270, 101, 271, 103, 104, 105, 106, 272, 273, 274, 275, 43, 28, 276, 277, 278, 279, 44, 280, 281, 282, 283, 284, 285, 286, 92, 287, 96, 288, 97, 289, 290, 291, 292, 293, 294, 295, 296, 110, 297, 112, 298, 113, 299, 300, 114, 301, 302, 303, 304, 94, 95, 305, 306, 307, 308, 309, 310, 311, 312, 45, 313, 314, 315, 316, 317, 318, 319, 325, 326, 327, 328, 329, 330, 331, 332, 333, 334, 335, 336, 337, 338, 339, 340, 341, 342, 343, 344, 345, 346, 347, 348, 349, 350, 375, 376, 377, 378, 379, 351, 352, 353, 354, 355, 356, 357, 358, 359, 360, 361, 362, 363, 364, 365, 366, 367, 368, 369, 370, 371, 372, 373, 374] (by decide +kernel) (by decide +kernel)
set_option maxRecDepth 20000 in
theorem gX9_run_X6_passSecond : GoodIn wsX9_run (wsV RX9 116 RX6 yX6_passSecond wsX6_passSecond) := goodIn_app (goodIn_of _ (by decide +kernel)) ggX9_run_X6_passSecond
theorem dX9_run_0 : decode cX9_run 0 = .ok (.iload_n 1, 1) := by decide +kernel
theorem dX9_run_1 : decode cX9_run 1 = .ok (.i2l, 1) := by decide +kernel
theorem dX9_run_2 : decode cX9_run 2 = .ok (.lconst 1, 1) := by decide +kernel
theorem dX9_run_3 : decode cX9_run 3 = .ok (.ldc2_w 68, 3) := by decide +kernel
theorem dX9_run_6 : decode cX9_run 6 = .ok (.invokestatic 33, 3) := by decide +kernel
theorem dX9_run_9 : decode cX9_run 9 = .ok (.aload_n 0, 1) := by decide +kernel
theorem dX9_run_10 : decode cX9_run 10 = .ok (.invokevirtual 37, 3) := by decide +kernel
theorem dX9_run_13 : decode cX9_run 13 = .ok (.aload_n 0, 1) := by decide +kernel
theorem dX9_run_14 : decode cX9_run 14 = .ok (.getfield 10, 3) := by decide +kernel
theorem dX9_run_17 : decode cX9_run 17 = .ok (.getfield 112, 3) := by decide +kernel
theorem dX9_run_20 : decode cX9_run 20 = .ok (.lstore_n 2, 1) := by decide +kernel
theorem dX9_run_21 : decode cX9_run 21 = .ok (.iconst 0, 1) := by decide +kernel
theorem dX9_run_22 : decode cX9_run 22 = .ok (.istore 4, 2) := by decide +kernel
theorem dX9_run_24 : decode cX9_run 24 = .ok (.iload 4, 2) := by decide +kernel
theorem dX9_run_26 : decode cX9_run 26 = .ok (.iload_n 1, 1) := by decide +kernel
theorem dX9_run_27 : decode cX9_run 27 = .ok (.if_icmp .ge 16, 3) := by decide +kernel
theorem dX9_run_30 : decode cX9_run 30 = .ok (.aload_n 0, 1) := by decide +kernel
theorem dX9_run_31 : decode cX9_run 31 = .ok (.getfield 10, 3) := by decide +kernel
theorem dX9_run_34 : decode cX9_run 34 = .ok (.invokevirtual 116, 3) := by decide +kernel
theorem dX9_run_37 : decode cX9_run 37 = .ok (.iinc 4 1, 3) := by decide +kernel
theorem dX9_run_40 : decode cX9_run 40 = .ok (.goto (-16), 3) := by decide +kernel
theorem dX9_run_43 : decode cX9_run 43 = .ok (.aload_n 0, 1) := by decide +kernel
theorem dX9_run_44 : decode cX9_run 44 = .ok (.getfield 10, 3) := by decide +kernel
theorem dX9_run_47 : decode cX9_run 47 = .ok (.getfield 112, 3) := by decide +kernel
theorem dX9_run_50 : decode cX9_run 50 = .ok (.lload_n 2, 1) := by decide +kernel
theorem dX9_run_51 : decode cX9_run 51 = .ok (.lsub, 1) := by decide +kernel
theorem dX9_run_52 : decode cX9_run 52 = .ok (.lreturn, 1) := by decide +kernel
set_option maxRecDepth 20000 in
theorem ggX9_openBatch_X9_needBetween : GoodIn wsX9_openBatch wsX9_needBetween := goodIn_ca (goodIn_r _ [9, 10, 11] (by decide +kernel) (by decide +kernel)) (goodIn_sub (fun _ h => List.mem_cons_of_mem _ (List.mem_append_left _ (List.mem_append_right _ h))) (by decide +kernel))
set_option maxRecDepth 20000 in
theorem gX9_openBatch_X9_needBetween : GoodIn wsX9_openBatch (va_wsS RX9 33 yX9_needBetween wsX9_needBetween) := goodIn_app (goodIn_of _ (by decide +kernel)) ggX9_openBatch_X9_needBetween
set_option maxRecDepth 20000 in
theorem ggX9_openBatch_X9_needState : GoodIn wsX9_openBatch wsX9_needState := goodIn_ca (goodIn_r _ [14, 15, 16] (by decide +kernel) (by decide +kernel)) (goodIn_sub (fun _ h => List.mem_cons_of_mem _ (List.mem_append_right _ h)) (by decide +kernel))
set_option maxRecDepth 20000 in
theorem gX9_openBatch_X9_needState : GoodIn wsX9_openBatch (va_wsS RX9 131 yX9_needState wsX9_needState) := goodIn_app (goodIn_of _ (by decide +kernel)) ggX9_openBatch_X9_needState
set_option maxRecDepth 20000 in
theorem ggX9_openBatch_X9_save : GoodIn wsX9_openBatch wsX9_save := goodIn_r _ [20, 21, 2, 22, 23, 24, 25, 26, 27, 28, 29, 30, 31, 32, 33, 34, 35, 36, 37, 38, 39, 40, 41, 42, 43, 44, 45, 46, 47, 48, 49, 50, 51, 52, 53, 54, 55, 56, 57, 58, 59, 60, 61, 62, 63, 64, 65, 66, 67, 68, 69, 70, 71, 72, 73, 74, 75, 76, 77, 78, 79, 80, 81, 82, 83, 84, 85, 86, 87, 88, 89, 90, 91, 92, 93, 94, 95, 96, 97, 98, 99, 100, 101, 102, 103, 104, 105, 106, 107, 108, 109, 110, 111, 112, 113, 114, 115, 116, 117, 118, 119, 120, 121, 122, 123, 124, 125, 126, 127, 128, 129, 130, 139, 140, 141, 142, 143, 144, 145, 146, 147, 148, 149, 150, 151, 152, 153, 154, 155, 156, 157, 158, 159, 160, 161, 162, 163, 170, 171, 172, 173, 174, 175, 176, 177, 178, 179, 180, 181, 182, 164, 165, 166, 167, 168, 169, 183, 184, 185, 186, 187, 188, 189, 190, 191, 192, 193, 194, 195, 196, 197, 198] (by decide +kernel) (by decide +kernel)
set_option maxRecDepth 20000 in
theorem gX9_openBatch_X9_save : GoodIn wsX9_openBatch (wsV RX9 37 RX9 yX9_save wsX9_save) := goodIn_app (goodIn_of _ (by decide +kernel)) ggX9_openBatch_X9_save
set_option maxRecDepth 20000 in
theorem ggX9_openBatch_X0_begin : GoodIn wsX9_openBatch wsX0_begin := goodIn_r _ [134, 90, 91, 92, 93, 94, 135, 136, 137, 88, 138, 95, 164, 165, 166, 167, 168, 169] (by decide +kernel) (by decide +kernel)
set_option maxRecDepth 20000 in
theorem gX9_openBatch_X0_begin : GoodIn wsX9_openBatch (wsV RX9 135 RX0 yX0_begin wsX0_begin) := goodIn_app (goodIn_of _ (by decide +kernel)) ggX9_openBatch_X0_begin
theorem dX9_openBatch_0 : decode cX9_openBatch 0 = .ok (.iload_n 1, 1) := by decide +kernel
theorem dX9_openBatch_1 : decode cX9_openBatch 1 = .ok (.i2l, 1) := by decide +kernel
theorem dX9_openBatch_2 : decode cX9_openBatch 2 = .ok (.lconst 1, 1) := by decide +kernel
theorem dX9_openBatch_3 : decode cX9_openBatch 3 = .ok (.ldc2_w 119, 3) := by decide +kernel
theorem dX9_openBatch_6 : decode cX9_openBatch 6 = .ok (.invokestatic 33, 3) := by decide +kernel
theorem dX9_openBatch_9 : decode cX9_openBatch 9 = .ok (.iload_n 2, 1) := by decide +kernel
theorem dX9_openBatch_10 : decode cX9_openBatch 10 = .ok (.i2l, 1) := by decide +kernel
theorem dX9_openBatch_11 : decode cX9_openBatch 11 = .ok (.lconst 0, 1) := by decide +kernel
theorem dX9_openBatch_12 : decode cX9_openBatch 12 = .ok (.ldc2_w 119, 3) := by decide +kernel
theorem dX9_openBatch_15 : decode cX9_openBatch 15 = .ok (.invokestatic 33, 3) := by decide +kernel
theorem dX9_openBatch_18 : decode cX9_openBatch 18 = .ok (.aload_n 0, 1) := by decide +kernel
theorem dX9_openBatch_19 : decode cX9_openBatch 19 = .ok (.getfield 10, 3) := by decide +kernel
theorem dX9_openBatch_22 : decode cX9_openBatch 22 = .ok (.getfield 121, 3) := by decide +kernel
theorem dX9_openBatch_25 : decode cX9_openBatch 25 = .ok (.getfield 125, 3) := by decide +kernel
theorem dX9_openBatch_28 : decode cX9_openBatch 28 = .ok (.ifCond .ne 7, 3) := by decide +kernel
theorem dX9_openBatch_31 : decode cX9_openBatch 31 = .ok (.iconst 1, 1) := by decide +kernel
theorem dX9_openBatch_32 : decode cX9_openBatch 32 = .ok (.goto 4, 3) := by decide +kernel
theorem dX9_openBatch_35 : decode cX9_openBatch 35 = .ok (.iconst 0, 1) := by decide +kernel
theorem dX9_openBatch_36 : decode cX9_openBatch 36 = .ok (.invokestatic 131, 3) := by decide +kernel
theorem dX9_openBatch_39 : decode cX9_openBatch 39 = .ok (.aload_n 0, 1) := by decide +kernel
theorem dX9_openBatch_40 : decode cX9_openBatch 40 = .ok (.invokevirtual 37, 3) := by decide +kernel
theorem dX9_openBatch_43 : decode cX9_openBatch 43 = .ok (.aload_n 0, 1) := by decide +kernel
theorem dX9_openBatch_44 : decode cX9_openBatch 44 = .ok (.getfield 10, 3) := by decide +kernel
theorem dX9_openBatch_47 : decode cX9_openBatch 47 = .ok (.getfield 121, 3) := by decide +kernel
theorem dX9_openBatch_50 : decode cX9_openBatch 50 = .ok (.iload_n 1, 1) := by decide +kernel
theorem dX9_openBatch_51 : decode cX9_openBatch 51 = .ok (.iload_n 2, 1) := by decide +kernel
theorem dX9_openBatch_52 : decode cX9_openBatch 52 = .ok (.invokevirtual 135, 3) := by decide +kernel
theorem dX9_openBatch_55 : decode cX9_openBatch 55 = .ok (.aload_n 0, 1) := by decide +kernel
theorem dX9_openBatch_56 : decode cX9_openBatch 56 = .ok (.getfield 10, 3) := by decide +kernel
theorem dX9_openBatch_59 : decode cX9_openBatch 59 = .ok (.getfield 121, 3) := by decide +kernel
theorem dX9_openBatch_62 : decode cX9_openBatch 62 = .ok (.getfield 138, 3) := by decide +kernel
theorem dX9_openBatch_65 : decode cX9_openBatch 65 = .ok (.ireturn, 1) := by decide +kernel
set_option maxRecDepth 20000 in
theorem ggX9_closeBatch_X9_needState : GoodIn wsX9_closeBatch wsX9_needState := goodIn_ca (goodIn_r _ [8, 9, 10] (by decide +kernel) (by decide +kernel)) (goodIn_sub (fun _ h => List.mem_cons_of_mem _ (List.mem_append_right _ h)) (by decide +kernel))
set_option maxRecDepth 20000 in
theorem gX9_closeBatch_X9_needState : GoodIn wsX9_closeBatch (va_wsS RX9 131 yX9_needState wsX9_needState) := goodIn_app (goodIn_of _ (by decide +kernel)) ggX9_closeBatch_X9_needState
set_option maxRecDepth 20000 in
theorem ggX9_closeBatch_X9_save : GoodIn wsX9_closeBatch wsX9_save := goodIn_r _ [14, 15, 1, 16, 17, 18, 19, 20, 21, 22, 23, 24, 25, 26, 27, 28, 29, 30, 31, 32, 33, 34, 35, 36, 37, 38, 39, 40, 41, 42, 43, 44, 45, 46, 47, 48, 49, 50, 51, 52, 53, 54, 55, 56, 57, 58, 59, 60, 61, 62, 63, 64, 65, 66, 67, 68, 69, 70, 71, 72, 73, 74, 75, 76, 77, 78, 79, 80, 81, 82, 83, 84, 85, 86, 87, 88, 89, 90, 91, 92, 93, 94, 95, 96, 97, 98, 99, 100, 101, 102, 103, 104, 105, 106, 107, 108, 109, 110, 111, 112, 113, 114, 115, 116, 117, 118, 119, 120, 121, 122, 123, 124, 129, 130, 131, 132, 133, 134, 135, 136, 137, 138, 139, 140, 141, 142, 143, 144, 145, 146, 147, 148, 149, 150, 151, 152, 153, 160, 161, 162, 163, 164, 165, 166, 167, 168, 169, 170, 171, 172, 154, 155, 156, 157, 158, 159, 173, 174, 175, 176, 177, 178, 179, 180, 181, 182, 183, 184, 185, 186, 187, 188] (by decide +kernel) (by decide +kernel)
set_option maxRecDepth 20000 in
theorem gX9_closeBatch_X9_save : GoodIn wsX9_closeBatch (wsV RX9 37 RX9 yX9_save wsX9_save) := goodIn_app (goodIn_of _ (by decide +kernel)) ggX9_closeBatch_X9_save
set_option maxRecDepth 20000 in
theorem ggX9_closeBatch_X0_end : GoodIn wsX9_closeBatch wsX0_end := goodIn_r _ [128, 85, 89, 154, 155, 156, 157, 158, 159] (by decide +kernel) (by decide +kernel)
set_option maxRecDepth 20000 in
theorem gX9_closeBatch_X0_end : GoodIn wsX9_closeBatch (wsV RX9 141 RX0 yX0_end wsX0_end) := goodIn_app (goodIn_of _ (by decide +kernel)) ggX9_closeBatch_X0_end
theorem dX9_closeBatch_0 : decode cX9_closeBatch 0 = .ok (.aload_n 0, 1) := by decide +kernel
theorem dX9_closeBatch_1 : decode cX9_closeBatch 1 = .ok (.getfield 10, 3) := by decide +kernel
theorem dX9_closeBatch_4 : decode cX9_closeBatch 4 = .ok (.getfield 121, 3) := by decide +kernel
theorem dX9_closeBatch_7 : decode cX9_closeBatch 7 = .ok (.getfield 125, 3) := by decide +kernel
theorem dX9_closeBatch_10 : decode cX9_closeBatch 10 = .ok (.invokestatic 131, 3) := by decide +kernel
theorem dX9_closeBatch_13 : decode cX9_closeBatch 13 = .ok (.aload_n 0, 1) := by decide +kernel
theorem dX9_closeBatch_14 : decode cX9_closeBatch 14 = .ok (.invokevirtual 37, 3) := by decide +kernel
theorem dX9_closeBatch_17 : decode cX9_closeBatch 17 = .ok (.aload_n 0, 1) := by decide +kernel
theorem dX9_closeBatch_18 : decode cX9_closeBatch 18 = .ok (.getfield 10, 3) := by decide +kernel
theorem dX9_closeBatch_21 : decode cX9_closeBatch 21 = .ok (.getfield 121, 3) := by decide +kernel
theorem dX9_closeBatch_24 : decode cX9_closeBatch 24 = .ok (.invokevirtual 141, 3) := by decide +kernel
theorem dX9_closeBatch_27 : decode cX9_closeBatch 27 = .ok (.aload_n 0, 1) := by decide +kernel
theorem dX9_closeBatch_28 : decode cX9_closeBatch 28 = .ok (.getfield 10, 3) := by decide +kernel
theorem dX9_closeBatch_31 : decode cX9_closeBatch 31 = .ok (.getfield 121, 3) := by decide +kernel
theorem dX9_closeBatch_34 : decode cX9_closeBatch 34 = .ok (.getfield 144, 3) := by decide +kernel
theorem dX9_closeBatch_37 : decode cX9_closeBatch 37 = .ok (.lreturn, 1) := by decide +kernel
set_option maxRecDepth 20000 in
theorem ggX9_transmitter_X9_needIndex : GoodIn wsX9_transmitter wsX9_needIndex := goodIn_ca (goodIn_r _ [8, 9, 10] (by decide +kernel) (by decide +kernel)) (goodIn_sub (fun _ h => List.mem_cons_of_mem _ (List.mem_append_left _ (List.mem_append_right _ h))) (by decide +kernel))
set_option maxRecDepth 20000 in
theorem gX9_transmitter_X9_needIndex : GoodIn wsX9_transmitter (va_wsS RX9 25 yX9_needIndex wsX9_needIndex) := goodIn_app (goodIn_of _ (by decide +kernel)) ggX9_transmitter_X9_needIndex
set_option maxRecDepth 20000 in
theorem ggX9_transmitter_X9_needBetween : GoodIn wsX9_transmitter wsX9_needBetween := goodIn_ca (goodIn_r _ [13, 14, 15] (by decide +kernel) (by decide +kernel)) (goodIn_sub (fun _ h => List.mem_cons_of_mem _ (List.mem_append_right _ h)) (by decide +kernel))
set_option maxRecDepth 20000 in
theorem gX9_transmitter_X9_needBetween : GoodIn wsX9_transmitter (va_wsS RX9 33 yX9_needBetween wsX9_needBetween) := goodIn_app (goodIn_of _ (by decide +kernel)) ggX9_transmitter_X9_needBetween
set_option maxRecDepth 20000 in
theorem ggX9_transmitter_X6_transmitterAt : GoodIn wsX9_transmitter wsX6_transmitterAt := goodIn_r _ [20, 21, 22, 23, 24, 53, 54, 55, 56, 57, 58, 59, 60, 61, 62, 63, 64, 65, 66, 67, 68, 69, 70, 71, 72] (by decide +kernel) (by decide +kernel)
set_option maxRecDepth 20000 in
theorem gX9_transmitter_X6_transmitterAt : GoodIn wsX9_transmitter (wsV RX9 40 RX6 yX6_transmitterAt wsX6_transmitterAt) := goodIn_app (goodIn_of _ (by decide +kernel)) ggX9_transmitter_X6_transmitterAt
set_option maxRecDepth 20000 in
theorem ggX9_transmitter_X8_reading : GoodIn wsX9_transmitter wsX8_reading := goodIn_r _ [29, 30, 31, 32, 33, 34, 35, 36, 37, 47, 48, 49, 50, 51, 52] (by decide +kernel) (by decide +kernel)
set_option maxRecDepth 20000 in
theorem gX9_transmitter_X8_reading : GoodIn wsX9_transmitter (wsV RX9 108 RX8 yX8_reading wsX8_reading) := goodIn_app (goodIn_of _ (by decide +kernel)) ggX9_transmitter_X8_reading
set_option maxRecDepth 20000 in
theorem ggX9_transmitter_X8_isFaulty : GoodIn wsX9_transmitter wsX8_isFaulty := goodIn_r _ [41, 32, 47, 48, 49, 50, 51, 52] (by decide +kernel) (by decide +kernel)
set_option maxRecDepth 20000 in
theorem gX9_transmitter_X8_isFaulty : GoodIn wsX9_transmitter (wsV RX9 150 RX8 yX8_isFaulty wsX8_isFaulty) := goodIn_app (goodIn_of _ (by decide +kernel)) ggX9_transmitter_X8_isFaulty
theorem dX9_transmitter_0 : decode cX9_transmitter 0 = .ok (.iload_n 1, 1) := by decide +kernel
theorem dX9_transmitter_1 : decode cX9_transmitter 1 = .ok (.iconst 4, 1) := by decide +kernel
theorem dX9_transmitter_2 : decode cX9_transmitter 2 = .ok (.invokestatic 25, 3) := by decide +kernel
theorem dX9_transmitter_5 : decode cX9_transmitter 5 = .ok (.iload_n 2, 1) := by decide +kernel
theorem dX9_transmitter_6 : decode cX9_transmitter 6 = .ok (.i2l, 1) := by decide +kernel
theorem dX9_transmitter_7 : decode cX9_transmitter 7 = .ok (.lconst 0, 1) := by decide +kernel
theorem dX9_transmitter_8 : decode cX9_transmitter 8 = .ok (.ldc2_w 145, 3) := by decide +kernel
theorem dX9_transmitter_11 : decode cX9_transmitter 11 = .ok (.invokestatic 33, 3) := by decide +kernel
theorem dX9_transmitter_14 : decode cX9_transmitter 14 = .ok (.aload_n 0, 1) := by decide +kernel
theorem dX9_transmitter_15 : decode cX9_transmitter 15 = .ok (.getfield 10, 3) := by decide +kernel
theorem dX9_transmitter_18 : decode cX9_transmitter 18 = .ok (.iload_n 1, 1) := by decide +kernel
theorem dX9_transmitter_19 : decode cX9_transmitter 19 = .ok (.invokevirtual 40, 3) := by decide +kernel
theorem dX9_transmitter_22 : decode cX9_transmitter 22 = .ok (.astore_n 3, 1) := by decide +kernel
theorem dX9_transmitter_23 : decode cX9_transmitter 23 = .ok (.iload_n 2, 1) := by decide +kernel
theorem dX9_transmitter_24 : decode cX9_transmitter 24 = .ok (.tableswitch 51 0 2 #[28, 33, 38], 28) := by decide +kernel
theorem dX9_transmitter_52 : decode cX9_transmitter 52 = .ok (.aload_n 3, 1) := by decide +kernel
theorem dX9_transmitter_53 : decode cX9_transmitter 53 = .ok (.invokevirtual 108, 3) := by decide +kernel
theorem dX9_transmitter_56 : decode cX9_transmitter 56 = .ok (.ireturn, 1) := by decide +kernel
theorem dX9_transmitter_57 : decode cX9_transmitter 57 = .ok (.aload_n 3, 1) := by decide +kernel
theorem dX9_transmitter_58 : decode cX9_transmitter 58 = .ok (.getfield 147, 3) := by decide +kernel
theorem dX9_transmitter_61 : decode cX9_transmitter 61 = .ok (.ireturn, 1) := by decide +kernel
theorem dX9_transmitter_62 : decode cX9_transmitter 62 = .ok (.aload_n 3, 1) := by decide +kernel
theorem dX9_transmitter_63 : decode cX9_transmitter 63 = .ok (.invokevirtual 150, 3) := by decide +kernel
theorem dX9_transmitter_66 : decode cX9_transmitter 66 = .ok (.ifCond .eq 7, 3) := by decide +kernel
theorem dX9_transmitter_69 : decode cX9_transmitter 69 = .ok (.iconst 1, 1) := by decide +kernel
theorem dX9_transmitter_70 : decode cX9_transmitter 70 = .ok (.goto 4, 3) := by decide +kernel
theorem dX9_transmitter_73 : decode cX9_transmitter 73 = .ok (.iconst 0, 1) := by decide +kernel
theorem dX9_transmitter_74 : decode cX9_transmitter 74 = .ok (.ireturn, 1) := by decide +kernel
theorem dX9_transmitter_75 : decode cX9_transmitter 75 = .ok (.aload_n 3, 1) := by decide +kernel
theorem dX9_transmitter_76 : decode cX9_transmitter 76 = .ok (.getfield 105, 3) := by decide +kernel
theorem dX9_transmitter_79 : decode cX9_transmitter 79 = .ok (.ireturn, 1) := by decide +kernel
theorem dX9_range_0 : decode cX9_range 0 = .ok (.aload_n 0, 1) := by decide +kernel
theorem dX9_range_1 : decode cX9_range 1 = .ok (.getfield 10, 3) := by decide +kernel
theorem dX9_range_4 : decode cX9_range 4 = .ok (.getfield 154, 3) := by decide +kernel
theorem dX9_range_7 : decode cX9_range 7 = .ok (.ireturn, 1) := by decide +kernel
theorem dX9_differential_0 : decode cX9_differential 0 = .ok (.aload_n 0, 1) := by decide +kernel
theorem dX9_differential_1 : decode cX9_differential 1 = .ok (.getfield 10, 3) := by decide +kernel
theorem dX9_differential_4 : decode cX9_differential 4 = .ok (.getfield 157, 3) := by decide +kernel
theorem dX9_differential_7 : decode cX9_differential 7 = .ok (.ireturn, 1) := by decide +kernel
set_option maxRecDepth 20000 in
theorem ggX9_density_X6_presentDensity : GoodIn wsX9_density wsX6_presentDensity := goodIn_r _ [6, 7, 8, 9, 10, 11, 12, 13, 14, 15, 16, 17, 18, 19, 20, 21, 22, 23, 24, 25, 26, 27, 28, 29, 30, 31, 32, 33, 39, 40, 41, 42, 43, 44, 45, 46, 47, 48, 49, 50, 51, 52, 53, 54, 55, 56, 57, 58, 59, 60, 61, 62, 63, 64, 65, 66, 67, 68] (by decide +kernel) (by decide +kernel)
set_option maxRecDepth 20000 in
theorem gX9_density_X6_presentDensity : GoodIn wsX9_density (wsV RX9 160 RX6 yX6_presentDensity wsX6_presentDensity) := goodIn_app (goodIn_of _ (by decide +kernel)) ggX9_density_X6_presentDensity
theorem dX9_density_0 : decode cX9_density 0 = .ok (.aload_n 0, 1) := by decide +kernel
theorem dX9_density_1 : decode cX9_density 1 = .ok (.getfield 10, 3) := by decide +kernel
theorem dX9_density_4 : decode cX9_density 4 = .ok (.invokevirtual 160, 3) := by decide +kernel
theorem dX9_density_7 : decode cX9_density 7 = .ok (.lreturn, 1) := by decide +kernel
theorem dX9_flow_0 : decode cX9_flow 0 = .ok (.aload_n 0, 1) := by decide +kernel
theorem dX9_flow_1 : decode cX9_flow 1 = .ok (.getfield 10, 3) := by decide +kernel
theorem dX9_flow_4 : decode cX9_flow 4 = .ok (.getfield 164, 3) := by decide +kernel
theorem dX9_flow_7 : decode cX9_flow 7 = .ok (.lreturn, 1) := by decide +kernel
theorem dX9_isFlowing_0 : decode cX9_isFlowing 0 = .ok (.aload_n 0, 1) := by decide +kernel
theorem dX9_isFlowing_1 : decode cX9_isFlowing 1 = .ok (.getfield 10, 3) := by decide +kernel
theorem dX9_isFlowing_4 : decode cX9_isFlowing 4 = .ok (.getfield 86, 3) := by decide +kernel
theorem dX9_isFlowing_7 : decode cX9_isFlowing 7 = .ok (.getfield 167, 3) := by decide +kernel
theorem dX9_isFlowing_10 : decode cX9_isFlowing 10 = .ok (.ireturn, 1) := by decide +kernel
set_option maxRecDepth 20000 in
theorem ggX9_total_X9_needBetween : GoodIn wsX9_total wsX9_needBetween := goodIn_ca (goodIn_r _ [6, 7, 8] (by decide +kernel) (by decide +kernel)) (goodIn_sub (fun _ h => List.mem_cons_of_mem _ (List.mem_append_right _ h)) (by decide +kernel))
set_option maxRecDepth 20000 in
theorem gX9_total_X9_needBetween : GoodIn wsX9_total (va_wsS RX9 33 yX9_needBetween wsX9_needBetween) := goodIn_app (goodIn_of _ (by decide +kernel)) ggX9_total_X9_needBetween
set_option maxRecDepth 20000 in
theorem ggX9_total_X6_totalOf : GoodIn wsX9_total wsX6_totalOf := goodIn_r _ [13, 14, 15, 16, 17, 18, 19, 25, 26, 27, 28, 29, 30, 31, 32, 33, 34, 35, 36, 37, 38, 39, 40, 41, 42, 43, 44, 45, 46, 47, 48, 49, 50, 51, 52, 53, 54] (by decide +kernel) (by decide +kernel)
set_option maxRecDepth 20000 in
theorem gX9_total_X6_totalOf : GoodIn wsX9_total (wsV RX9 170 RX6 yX6_totalOf wsX6_totalOf) := goodIn_app (goodIn_of _ (by decide +kernel)) ggX9_total_X6_totalOf
theorem dX9_total_0 : decode cX9_total 0 = .ok (.iload_n 1, 1) := by decide +kernel
theorem dX9_total_1 : decode cX9_total 1 = .ok (.i2l, 1) := by decide +kernel
theorem dX9_total_2 : decode cX9_total 2 = .ok (.lconst 0, 1) := by decide +kernel
theorem dX9_total_3 : decode cX9_total 3 = .ok (.ldc2_w 145, 3) := by decide +kernel
theorem dX9_total_6 : decode cX9_total 6 = .ok (.invokestatic 33, 3) := by decide +kernel
theorem dX9_total_9 : decode cX9_total 9 = .ok (.aload_n 0, 1) := by decide +kernel
theorem dX9_total_10 : decode cX9_total 10 = .ok (.getfield 10, 3) := by decide +kernel
theorem dX9_total_13 : decode cX9_total 13 = .ok (.iload_n 1, 1) := by decide +kernel
theorem dX9_total_14 : decode cX9_total 14 = .ok (.invokevirtual 170, 3) := by decide +kernel
theorem dX9_total_17 : decode cX9_total 17 = .ok (.lreturn, 1) := by decide +kernel
theorem dX9_valve_0 : decode cX9_valve 0 = .ok (.aload_n 0, 1) := by decide +kernel
theorem dX9_valve_1 : decode cX9_valve 1 = .ok (.getfield 10, 3) := by decide +kernel
theorem dX9_valve_4 : decode cX9_valve 4 = .ok (.getfield 121, 3) := by decide +kernel
theorem dX9_valve_7 : decode cX9_valve 7 = .ok (.getfield 174, 3) := by decide +kernel
theorem dX9_valve_10 : decode cX9_valve 10 = .ok (.ireturn, 1) := by decide +kernel
set_option maxRecDepth 20000 in
theorem ggX9_flowFor_X9_needBetween : GoodIn wsX9_flowFor wsX9_needBetween := goodIn_ca (goodIn_r _ [9, 10, 11] (by decide +kernel) (by decide +kernel)) (goodIn_sub (fun _ h => List.mem_cons_of_mem _ (List.mem_append_right _ h)) (by decide +kernel))
set_option maxRecDepth 20000 in
theorem gX9_flowFor_X9_needBetween : GoodIn wsX9_flowFor (va_wsS RX9 33 yX9_needBetween wsX9_needBetween) := goodIn_app (goodIn_of _ (by decide +kernel)) ggX9_flowFor_X9_needBetween
set_option maxRecDepth 20000 in
theorem ggX9_flowFor_X3_densityAt : GoodIn wsX9_flowFor wsX3_densityAt := goodIn_r _ [16, 17, 18, 19, 20, 21, 22, 23, 24, 25, 26, 27, 28, 29, 30, 15, 31, 32, 33, 34, 79, 80, 81, 82] (by decide +kernel) (by decide +kernel)
set_option maxRecDepth 20000 in
theorem gX9_flowFor_X3_densityAt : GoodIn wsX9_flowFor (wsV RX9 181 RX3 yX3_densityAt wsX3_densityAt) := goodIn_app (goodIn_of _ (by decide +kernel)) ggX9_flowFor_X3_densityAt
set_option maxRecDepth 20000 in
theorem ggX9_flowFor_X3_flowAt : GoodIn wsX9_flowFor wsX3_flowAt := goodIn_r _ [38, 39, 40, 41, 17, 42, 43, 44, 45, 15, 46, 47, 25, 26, 27, 28, 48, 49, 50, 19, 20, 21, 22, 51, 52, 53, 29, 30, 31, 32, 33, 34, 79, 80, 81, 82] (by decide +kernel) (by decide +kernel)
set_option maxRecDepth 20000 in
theorem gX9_flowFor_X3_flowAt : GoodIn wsX9_flowFor (wsV RX9 185 RX3 yX3_flowAt wsX3_flowAt) := goodIn_app (goodIn_of _ (by decide +kernel)) ggX9_flowFor_X3_flowAt
theorem dX9_flowFor_0 : decode cX9_flowFor 0 = .ok (.iload_n 1, 1) := by decide +kernel
theorem dX9_flowFor_1 : decode cX9_flowFor 1 = .ok (.i2l, 1) := by decide +kernel
theorem dX9_flowFor_2 : decode cX9_flowFor 2 = .ok (.lconst 0, 1) := by decide +kernel
theorem dX9_flowFor_3 : decode cX9_flowFor 3 = .ok (.ldc2_w 31, 3) := by decide +kernel
theorem dX9_flowFor_6 : decode cX9_flowFor 6 = .ok (.invokestatic 33, 3) := by decide +kernel
theorem dX9_flowFor_9 : decode cX9_flowFor 9 = .ok (.iload_n 2, 1) := by decide +kernel
theorem dX9_flowFor_10 : decode cX9_flowFor 10 = .ok (.i2l, 1) := by decide +kernel
theorem dX9_flowFor_11 : decode cX9_flowFor 11 = .ok (.lconst 0, 1) := by decide +kernel
theorem dX9_flowFor_12 : decode cX9_flowFor 12 = .ok (.ldc2_w 31, 3) := by decide +kernel
theorem dX9_flowFor_15 : decode cX9_flowFor 15 = .ok (.invokestatic 33, 3) := by decide +kernel
theorem dX9_flowFor_18 : decode cX9_flowFor 18 = .ok (.iload_n 3, 1) := by decide +kernel
theorem dX9_flowFor_19 : decode cX9_flowFor 19 = .ok (.i2l, 1) := by decide +kernel
theorem dX9_flowFor_20 : decode cX9_flowFor 20 = .ok (.ldc2_w 177, 3) := by decide +kernel
theorem dX9_flowFor_23 : decode cX9_flowFor 23 = .ok (.ldc2_w 179, 3) := by decide +kernel
theorem dX9_flowFor_26 : decode cX9_flowFor 26 = .ok (.invokestatic 33, 3) := by decide +kernel
theorem dX9_flowFor_29 : decode cX9_flowFor 29 = .ok (.aload_n 0, 1) := by decide +kernel
theorem dX9_flowFor_30 : decode cX9_flowFor 30 = .ok (.getfield 10, 3) := by decide +kernel
theorem dX9_flowFor_33 : decode cX9_flowFor 33 = .ok (.getfield 59, 3) := by decide +kernel
theorem dX9_flowFor_36 : decode cX9_flowFor 36 = .ok (.iload_n 1, 1) := by decide +kernel
theorem dX9_flowFor_37 : decode cX9_flowFor 37 = .ok (.iload_n 2, 1) := by decide +kernel
theorem dX9_flowFor_38 : decode cX9_flowFor 38 = .ok (.aload_n 0, 1) := by decide +kernel
theorem dX9_flowFor_39 : decode cX9_flowFor 39 = .ok (.getfield 10, 3) := by decide +kernel
theorem dX9_flowFor_42 : decode cX9_flowFor 42 = .ok (.getfield 59, 3) := by decide +kernel
theorem dX9_flowFor_45 : decode cX9_flowFor 45 = .ok (.iload_n 2, 1) := by decide +kernel
theorem dX9_flowFor_46 : decode cX9_flowFor 46 = .ok (.iload_n 3, 1) := by decide +kernel
theorem dX9_flowFor_47 : decode cX9_flowFor 47 = .ok (.invokevirtual 181, 3) := by decide +kernel
theorem dX9_flowFor_50 : decode cX9_flowFor 50 = .ok (.invokevirtual 185, 3) := by decide +kernel
theorem dX9_flowFor_53 : decode cX9_flowFor 53 = .ok (.lreturn, 1) := by decide +kernel
set_option maxRecDepth 20000 in
theorem ggX9_differentialFor_X9_needBetween : GoodIn wsX9_differentialFor wsX9_needBetween := goodIn_ca (goodIn_r _ [9, 10, 11] (by decide +kernel) (by decide +kernel)) (goodIn_sub (fun _ h => List.mem_cons_of_mem _ (List.mem_append_right _ h)) (by decide +kernel))
set_option maxRecDepth 20000 in
theorem gX9_differentialFor_X9_needBetween : GoodIn wsX9_differentialFor (va_wsS RX9 33 yX9_needBetween wsX9_needBetween) := goodIn_app (goodIn_of _ (by decide +kernel)) ggX9_differentialFor_X9_needBetween
set_option maxRecDepth 20000 in
theorem ggX9_differentialFor_X6_presentDensity : GoodIn wsX9_differentialFor wsX6_presentDensity := goodIn_r _ [16, 17, 18, 19, 20, 21, 22, 23, 24, 25, 26, 27, 28, 29, 30, 31, 32, 33, 34, 35, 36, 37, 38, 39, 40, 41, 42, 43, 68, 69, 70, 71, 72, 73, 74, 75, 76, 77, 78, 79, 80, 81, 82, 83, 84, 85, 86, 87, 88, 89, 90, 91, 92, 93, 94, 95, 96, 97] (by decide +kernel) (by decide +kernel)
set_option maxRecDepth 20000 in
theorem gX9_differentialFor_X6_presentDensity : GoodIn wsX9_differentialFor (wsV RX9 160 RX6 yX6_presentDensity wsX6_presentDensity) := goodIn_app (goodIn_of _ (by decide +kernel)) ggX9_differentialFor_X6_presentDensity
set_option maxRecDepth 20000 in
theorem ggX9_differentialFor_X3_flowAt : GoodIn wsX9_differentialFor wsX3_flowAt := goodIn_r _ [47, 48, 49, 50, 26, 51, 52, 53, 54, 24, 55, 56, 34, 35, 36, 37, 57, 58, 59, 28, 29, 30, 31, 60, 61, 62, 38, 39, 40, 41, 42, 43, 94, 95, 96, 97] (by decide +kernel) (by decide +kernel)
set_option maxRecDepth 20000 in
theorem gX9_differentialFor_X3_flowAt : GoodIn wsX9_differentialFor (wsV RX9 185 RX3 yX3_flowAt wsX3_flowAt) := goodIn_app (goodIn_of _ (by decide +kernel)) ggX9_differentialFor_X3_flowAt
theorem dX9_differentialFor_0 : decode cX9_differentialFor 0 = .ok (.lload_n 1, 1) := by decide +kernel
theorem dX9_differentialFor_1 : decode cX9_differentialFor 1 = .ok (.lconst 0, 1) := by decide +kernel
theorem dX9_differentialFor_2 : decode cX9_differentialFor 2 = .ok (.ldc2_w 119, 3) := by decide +kernel
theorem dX9_differentialFor_5 : decode cX9_differentialFor 5 = .ok (.invokestatic 33, 3) := by decide +kernel
theorem dX9_differentialFor_8 : decode cX9_differentialFor 8 = .ok (.aload_n 0, 1) := by decide +kernel
theorem dX9_differentialFor_9 : decode cX9_differentialFor 9 = .ok (.getfield 10, 3) := by decide +kernel
theorem dX9_differentialFor_12 : decode cX9_differentialFor 12 = .ok (.getfield 189, 3) := by decide +kernel
theorem dX9_differentialFor_15 : decode cX9_differentialFor 15 = .ok (.getfield 147, 3) := by decide +kernel
theorem dX9_differentialFor_18 : decode cX9_differentialFor 18 = .ok (.istore_n 3, 1) := by decide +kernel
theorem dX9_differentialFor_19 : decode cX9_differentialFor 19 = .ok (.aload_n 0, 1) := by decide +kernel
theorem dX9_differentialFor_20 : decode cX9_differentialFor 20 = .ok (.getfield 10, 3) := by decide +kernel
theorem dX9_differentialFor_23 : decode cX9_differentialFor 23 = .ok (.invokevirtual 160, 3) := by decide +kernel
theorem dX9_differentialFor_26 : decode cX9_differentialFor 26 = .ok (.lstore 4, 2) := by decide +kernel
theorem dX9_differentialFor_28 : decode cX9_differentialFor 28 = .ok (.iconst 0, 1) := by decide +kernel
theorem dX9_differentialFor_29 : decode cX9_differentialFor 29 = .ok (.istore 6, 2) := by decide +kernel
theorem dX9_differentialFor_31 : decode cX9_differentialFor 31 = .ok (.iload 6, 2) := by decide +kernel
theorem dX9_differentialFor_33 : decode cX9_differentialFor 33 = .ok (.sipush 30000, 3) := by decide +kernel
theorem dX9_differentialFor_36 : decode cX9_differentialFor 36 = .ok (.if_icmp .gt 32, 3) := by decide +kernel
theorem dX9_differentialFor_39 : decode cX9_differentialFor 39 = .ok (.aload_n 0, 1) := by decide +kernel
theorem dX9_differentialFor_40 : decode cX9_differentialFor 40 = .ok (.getfield 10, 3) := by decide +kernel
theorem dX9_differentialFor_43 : decode cX9_differentialFor 43 = .ok (.getfield 59, 3) := by decide +kernel
theorem dX9_differentialFor_46 : decode cX9_differentialFor 46 = .ok (.iload 6, 2) := by decide +kernel
theorem dX9_differentialFor_48 : decode cX9_differentialFor 48 = .ok (.iload_n 3, 1) := by decide +kernel
theorem dX9_differentialFor_49 : decode cX9_differentialFor 49 = .ok (.lload 4, 2) := by decide +kernel
theorem dX9_differentialFor_51 : decode cX9_differentialFor 51 = .ok (.invokevirtual 185, 3) := by decide +kernel
theorem dX9_differentialFor_54 : decode cX9_differentialFor 54 = .ok (.lload_n 1, 1) := by decide +kernel
theorem dX9_differentialFor_55 : decode cX9_differentialFor 55 = .ok (.lcmp, 1) := by decide +kernel
theorem dX9_differentialFor_56 : decode cX9_differentialFor 56 = .ok (.ifCond .lt 6, 3) := by decide +kernel
theorem dX9_differentialFor_59 : decode cX9_differentialFor 59 = .ok (.iload 6, 2) := by decide +kernel
theorem dX9_differentialFor_61 : decode cX9_differentialFor 61 = .ok (.ireturn, 1) := by decide +kernel
theorem dX9_differentialFor_62 : decode cX9_differentialFor 62 = .ok (.iinc 6 1, 3) := by decide +kernel
theorem dX9_differentialFor_65 : decode cX9_differentialFor 65 = .ok (.goto (-34), 3) := by decide +kernel
theorem dX9_differentialFor_68 : decode cX9_differentialFor 68 = .ok (.iconst (-1), 1) := by decide +kernel
theorem dX9_differentialFor_69 : decode cX9_differentialFor 69 = .ok (.ireturn, 1) := by decide +kernel
theorem dX9_hours_0 : decode cX9_hours 0 = .ok (.aload_n 0, 1) := by decide +kernel
theorem dX9_hours_1 : decode cX9_hours 1 = .ok (.getfield 10, 3) := by decide +kernel
theorem dX9_hours_4 : decode cX9_hours 4 = .ok (.getfield 193, 3) := by decide +kernel
theorem dX9_hours_7 : decode cX9_hours 7 = .ok (.getfield 197, 3) := by decide +kernel
theorem dX9_hours_10 : decode cX9_hours 10 = .ok (.ireturn, 1) := by decide +kernel
set_option maxRecDepth 20000 in
theorem ggX9_hour_X9_valueOf : GoodIn wsX9_hour wsX9_valueOf := goodIn_ca (goodIn_ca (goodIn_r _ [6, 7, 8, 9, 10, 5, 11, 12, 13, 14, 15, 16, 17, 18, 19, 20, 21, 22, 23, 24, 25, 26, 27, 28, 29, 30, 31, 57, 58, 59, 60, 61] (by decide +kernel) (by decide +kernel)) (goodIn_sub (fun _ h => List.mem_cons_of_mem _ (List.mem_append_left _ (List.mem_append_right _ h))) (by decide +kernel))) (goodIn_sub (fun _ h => List.mem_cons_of_mem _ (List.mem_append_right _ h)) (by decide +kernel))
set_option maxRecDepth 20000 in
theorem gX9_hour_X9_valueOf : GoodIn wsX9_hour (va_wsS RX9 202 yX9_valueOf wsX9_valueOf) := goodIn_app (goodIn_of _ (by decide +kernel)) ggX9_hour_X9_valueOf
theorem dX9_hour_0 : decode cX9_hour 0 = .ok (.aload_n 0, 1) := by decide +kernel
theorem dX9_hour_1 : decode cX9_hour 1 = .ok (.getfield 10, 3) := by decide +kernel
theorem dX9_hour_4 : decode cX9_hour 4 = .ok (.getfield 193, 3) := by decide +kernel
theorem dX9_hour_7 : decode cX9_hour 7 = .ok (.iload_n 1, 1) := by decide +kernel
theorem dX9_hour_8 : decode cX9_hour 8 = .ok (.iload_n 2, 1) := by decide +kernel
theorem dX9_hour_9 : decode cX9_hour 9 = .ok (.invokestatic 202, 3) := by decide +kernel
theorem dX9_hour_12 : decode cX9_hour 12 = .ok (.lreturn, 1) := by decide +kernel
theorem dX9_days_0 : decode cX9_days 0 = .ok (.aload_n 0, 1) := by decide +kernel
theorem dX9_days_1 : decode cX9_days 1 = .ok (.getfield 10, 3) := by decide +kernel
theorem dX9_days_4 : decode cX9_days 4 = .ok (.getfield 206, 3) := by decide +kernel
theorem dX9_days_7 : decode cX9_days 7 = .ok (.getfield 197, 3) := by decide +kernel
theorem dX9_days_10 : decode cX9_days 10 = .ok (.ireturn, 1) := by decide +kernel
set_option maxRecDepth 20000 in
theorem ggX9_day_X9_valueOf : GoodIn wsX9_day wsX9_valueOf := goodIn_ca (goodIn_ca (goodIn_r _ [6, 7, 8, 9, 10, 5, 11, 12, 13, 14, 15, 16, 17, 18, 19, 20, 21, 22, 23, 24, 25, 26, 27, 28, 29, 30, 31, 57, 58, 59, 60, 61] (by decide +kernel) (by decide +kernel)) (goodIn_sub (fun _ h => List.mem_cons_of_mem _ (List.mem_append_left _ (List.mem_append_right _ h))) (by decide +kernel))) (goodIn_sub (fun _ h => List.mem_cons_of_mem _ (List.mem_append_right _ h)) (by decide +kernel))
set_option maxRecDepth 20000 in
theorem gX9_day_X9_valueOf : GoodIn wsX9_day (va_wsS RX9 202 yX9_valueOf wsX9_valueOf) := goodIn_app (goodIn_of _ (by decide +kernel)) ggX9_day_X9_valueOf
theorem dX9_day_0 : decode cX9_day 0 = .ok (.aload_n 0, 1) := by decide +kernel
theorem dX9_day_1 : decode cX9_day 1 = .ok (.getfield 10, 3) := by decide +kernel
theorem dX9_day_4 : decode cX9_day 4 = .ok (.getfield 206, 3) := by decide +kernel
theorem dX9_day_7 : decode cX9_day 7 = .ok (.iload_n 1, 1) := by decide +kernel
theorem dX9_day_8 : decode cX9_day 8 = .ok (.iload_n 2, 1) := by decide +kernel
theorem dX9_day_9 : decode cX9_day 9 = .ok (.invokestatic 202, 3) := by decide +kernel
theorem dX9_day_12 : decode cX9_day 12 = .ok (.lreturn, 1) := by decide +kernel
theorem dX9_events_0 : decode cX9_events 0 = .ok (.aload_n 0, 1) := by decide +kernel
theorem dX9_events_1 : decode cX9_events 1 = .ok (.getfield 10, 3) := by decide +kernel
theorem dX9_events_4 : decode cX9_events 4 = .ok (.getfield 209, 3) := by decide +kernel
theorem dX9_events_7 : decode cX9_events 7 = .ok (.getfield 197, 3) := by decide +kernel
theorem dX9_events_10 : decode cX9_events 10 = .ok (.ireturn, 1) := by decide +kernel
set_option maxRecDepth 20000 in
theorem ggX9_event_X9_valueOf : GoodIn wsX9_event wsX9_valueOf := goodIn_ca (goodIn_ca (goodIn_r _ [6, 7, 8, 9, 10, 5, 11, 12, 13, 14, 15, 16, 17, 18, 19, 20, 21, 22, 23, 24, 25, 26, 27, 28, 29, 30, 31, 57, 58, 59, 60, 61] (by decide +kernel) (by decide +kernel)) (goodIn_sub (fun _ h => List.mem_cons_of_mem _ (List.mem_append_left _ (List.mem_append_right _ h))) (by decide +kernel))) (goodIn_sub (fun _ h => List.mem_cons_of_mem _ (List.mem_append_right _ h)) (by decide +kernel))
set_option maxRecDepth 20000 in
theorem gX9_event_X9_valueOf : GoodIn wsX9_event (va_wsS RX9 202 yX9_valueOf wsX9_valueOf) := goodIn_app (goodIn_of _ (by decide +kernel)) ggX9_event_X9_valueOf
theorem dX9_event_0 : decode cX9_event 0 = .ok (.aload_n 0, 1) := by decide +kernel
theorem dX9_event_1 : decode cX9_event 1 = .ok (.getfield 10, 3) := by decide +kernel
theorem dX9_event_4 : decode cX9_event 4 = .ok (.getfield 209, 3) := by decide +kernel
theorem dX9_event_7 : decode cX9_event 7 = .ok (.iload_n 1, 1) := by decide +kernel
theorem dX9_event_8 : decode cX9_event 8 = .ok (.iload_n 2, 1) := by decide +kernel
theorem dX9_event_9 : decode cX9_event 9 = .ok (.invokestatic 202, 3) := by decide +kernel
theorem dX9_event_12 : decode cX9_event 12 = .ok (.lreturn, 1) := by decide +kernel
set_option maxRecDepth 20000 in
theorem ggX9_undo_X9_needState : GoodIn wsX9_undo wsX9_needState := goodIn_ca (goodIn_r _ [9, 10, 11] (by decide +kernel) (by decide +kernel)) (goodIn_sub (fun _ h => List.mem_cons_of_mem _ (List.mem_append_right _ h)) (by decide +kernel))
set_option maxRecDepth 20000 in
theorem gX9_undo_X9_needState : GoodIn wsX9_undo (va_wsS RX9 131 yX9_needState wsX9_needState) := goodIn_app (goodIn_of _ (by decide +kernel)) ggX9_undo_X9_needState
theorem dX9_undo_0 : decode cX9_undo 0 = .ok (.aload_n 0, 1) := by decide +kernel
theorem dX9_undo_1 : decode cX9_undo 1 = .ok (.getfield 212, 3) := by decide +kernel
theorem dX9_undo_4 : decode cX9_undo 4 = .ok (.ifCond .le 7, 3) := by decide +kernel
theorem dX9_undo_7 : decode cX9_undo 7 = .ok (.iconst 1, 1) := by decide +kernel
theorem dX9_undo_8 : decode cX9_undo 8 = .ok (.goto 4, 3) := by decide +kernel
theorem dX9_undo_11 : decode cX9_undo 11 = .ok (.iconst 0, 1) := by decide +kernel
theorem dX9_undo_12 : decode cX9_undo 12 = .ok (.invokestatic 131, 3) := by decide +kernel
theorem dX9_undo_15 : decode cX9_undo 15 = .ok (.aload_n 0, 1) := by decide +kernel
theorem dX9_undo_16 : decode cX9_undo 16 = .ok (.getfield 10, 3) := by decide +kernel
theorem dX9_undo_19 : decode cX9_undo 19 = .ok (.astore_n 1, 1) := by decide +kernel
theorem dX9_undo_20 : decode cX9_undo 20 = .ok (.aload_n 0, 1) := by decide +kernel
theorem dX9_undo_21 : decode cX9_undo 21 = .ok (.aload_n 0, 1) := by decide +kernel
theorem dX9_undo_22 : decode cX9_undo 22 = .ok (.getfield 16, 3) := by decide +kernel
theorem dX9_undo_25 : decode cX9_undo 25 = .ok (.putfield 10, 3) := by decide +kernel
theorem dX9_undo_28 : decode cX9_undo 28 = .ok (.aload_n 0, 1) := by decide +kernel
theorem dX9_undo_29 : decode cX9_undo 29 = .ok (.aload_n 0, 1) := by decide +kernel
theorem dX9_undo_30 : decode cX9_undo 30 = .ok (.getfield 19, 3) := by decide +kernel
theorem dX9_undo_33 : decode cX9_undo 33 = .ok (.putfield 16, 3) := by decide +kernel
theorem dX9_undo_36 : decode cX9_undo 36 = .ok (.aload_n 0, 1) := by decide +kernel
theorem dX9_undo_37 : decode cX9_undo 37 = .ok (.aload_n 0, 1) := by decide +kernel
theorem dX9_undo_38 : decode cX9_undo 38 = .ok (.getfield 22, 3) := by decide +kernel
theorem dX9_undo_41 : decode cX9_undo 41 = .ok (.putfield 19, 3) := by decide +kernel
theorem dX9_undo_44 : decode cX9_undo 44 = .ok (.aload_n 0, 1) := by decide +kernel
theorem dX9_undo_45 : decode cX9_undo 45 = .ok (.aload_n 1, 1) := by decide +kernel
theorem dX9_undo_46 : decode cX9_undo 46 = .ok (.putfield 22, 3) := by decide +kernel
theorem dX9_undo_49 : decode cX9_undo 49 = .ok (.aload_n 0, 1) := by decide +kernel
theorem dX9_undo_50 : decode cX9_undo 50 = .ok (.dup, 1) := by decide +kernel
theorem dX9_undo_51 : decode cX9_undo 51 = .ok (.getfield 212, 3) := by decide +kernel
theorem dX9_undo_54 : decode cX9_undo 54 = .ok (.iconst 1, 1) := by decide +kernel
theorem dX9_undo_55 : decode cX9_undo 55 = .ok (.isub, 1) := by decide +kernel
theorem dX9_undo_56 : decode cX9_undo 56 = .ok (.putfield 212, 3) := by decide +kernel
theorem dX9_undo_59 : decode cX9_undo 59 = .ok (.aload_n 0, 1) := by decide +kernel
theorem dX9_undo_60 : decode cX9_undo 60 = .ok (.getfield 212, 3) := by decide +kernel
theorem dX9_undo_63 : decode cX9_undo 63 = .ok (.ireturn, 1) := by decide +kernel
set_option maxRecDepth 20000 in
theorem ggX9_digest_X9_hashed : GoodIn wsX9_digest wsX9_hashed := goodIn_r _ [7, 8] (by decide +kernel) (by decide +kernel)
set_option maxRecDepth 20000 in
theorem gX9_digest_X9_hashed : GoodIn wsX9_digest (va_wsS RX9 217 yX9_hashed wsX9_hashed) := goodIn_app (goodIn_of _ (by decide +kernel)) ggX9_digest_X9_hashed
set_option maxRecDepth 20000 in
theorem ggX9_digest_X6_hashAfter : GoodIn wsX9_digest wsX6_hashAfter := goodIn_r _ [13, 14, 15, 16, 17, 18, 19, 20, 21, 22, 23, 24, 25, 26, 27, 12, 28, 29, 30, 31, 32, 33, 34, 35, 5, 6, 7, 8, 36, 37, 38, 39, 40, 41, 42, 43, 44, 45, 46, 47, 48, 49, 50, 51, 52, 53, 54, 55, 56, 57, 58, 59, 60, 61, 62, 63, 64, 65, 66, 67, 68, 69, 70, 71, 72, 73, 74, 75, 76, 77, 78, 79, 80, 81, 82, 83, 84, 85, 86, 87, 88, 89, 90, 91, 92, 93, 94, 95, 96, 97, 98, 99, 100, 101, 102, 103, 104, 105, 106, 107, 108, 109, 110, 111, 112, 118, 119, 120, 121, 122, 123, 124, 125, 126, 127, 128, 129, 130, 131, 132, 133, 134, 135, 136, 137, 138, 139, 140, 141, 142, 143, 144, 145, 146, 147, 148, 149, 150, 151, 152, 153, 154, 155, 156, 157, 158, 159, 160, 161, 162, 163, 164, 165] (by decide +kernel) (by decide +kernel)
set_option maxRecDepth 20000 in
theorem gX9_digest_X6_hashAfter : GoodIn wsX9_digest (wsV RX9 221 RX6 yX6_hashAfter wsX6_hashAfter) := goodIn_app (goodIn_of _ (by decide +kernel)) ggX9_digest_X6_hashAfter
theorem dX9_digest_0 : decode cX9_digest 0 = .ok (.aload_n 0, 1) := by decide +kernel
theorem dX9_digest_1 : decode cX9_digest 1 = .ok (.getfield 10, 3) := by decide +kernel
theorem dX9_digest_4 : decode cX9_digest 4 = .ok (.ldc2_w 215, 3) := by decide +kernel
theorem dX9_digest_7 : decode cX9_digest 7 = .ok (.aload_n 0, 1) := by decide +kernel
theorem dX9_digest_8 : decode cX9_digest 8 = .ok (.getfield 212, 3) := by decide +kernel
theorem dX9_digest_11 : decode cX9_digest 11 = .ok (.i2l, 1) := by decide +kernel
theorem dX9_digest_12 : decode cX9_digest 12 = .ok (.invokestatic 217, 3) := by decide +kernel
theorem dX9_digest_15 : decode cX9_digest 15 = .ok (.invokevirtual 221, 3) := by decide +kernel
theorem dX9_digest_18 : decode cX9_digest 18 = .ok (.lreturn, 1) := by decide +kernel
set_option maxRecDepth 20000 in
theorem ggX9_save_X6_copyFrom : GoodIn wsX9_save wsX6_copyFrom := goodIn_r _ [14, 15, 16, 17, 18, 19, 20, 21, 22, 23, 24, 25, 26, 27, 28, 29, 30, 31, 32, 33, 34, 35, 36, 37, 38, 39, 40, 41, 42, 43, 44, 45, 46, 47, 48, 49, 50, 51, 52, 53, 54, 55, 56, 57, 58, 59, 60, 61, 62, 63, 64, 65, 66, 67, 68, 69, 70, 71, 72, 73, 74, 75, 76, 77, 78, 79, 80, 81, 82, 83, 84, 85, 86, 87, 88, 89, 90, 91, 92, 93, 94, 95, 96, 97, 98, 99, 100, 101, 102, 103, 104, 105, 106, 107, 108, 109, 110, 111, 117, 118, 119, 120, 121, 122, 123, 124, 125, 126, 127, 128, 129, 130, 131, 132, 133, 134, 135, 136, 137, 138, 139, 140, 141, 142, 143, 144, 145, 146, 147, 148, 149, 150, 151, 152, 153, 154, 155, 156, 157, 158, 159, 160, 161, 162, 163, 164, 165, 166, 167, 168, 169, 170, 171] (by decide +kernel) (by decide +kernel)
set_option maxRecDepth 20000 in
theorem gX9_save_X6_copyFrom : GoodIn wsX9_save (wsV RX9 225 RX6 yX6_copyFrom wsX6_copyFrom) := goodIn_app (goodIn_of _ (by decide +kernel)) ggX9_save_X6_copyFrom
theorem dX9_save_0 : decode cX9_save 0 = .ok (.aload_n 0, 1) := by decide +kernel
theorem dX9_save_1 : decode cX9_save 1 = .ok (.getfield 22, 3) := by decide +kernel
theorem dX9_save_4 : decode cX9_save 4 = .ok (.astore_n 1, 1) := by decide +kernel
theorem dX9_save_5 : decode cX9_save 5 = .ok (.aload_n 1, 1) := by decide +kernel
theorem dX9_save_6 : decode cX9_save 6 = .ok (.aload_n 0, 1) := by decide +kernel
theorem dX9_save_7 : decode cX9_save 7 = .ok (.getfield 10, 3) := by decide +kernel
theorem dX9_save_10 : decode cX9_save 10 = .ok (.invokevirtual 225, 3) := by decide +kernel
theorem dX9_save_13 : decode cX9_save 13 = .ok (.aload_n 0, 1) := by decide +kernel
theorem dX9_save_14 : decode cX9_save 14 = .ok (.aload_n 0, 1) := by decide +kernel
theorem dX9_save_15 : decode cX9_save 15 = .ok (.getfield 19, 3) := by decide +kernel
theorem dX9_save_18 : decode cX9_save 18 = .ok (.putfield 22, 3) := by decide +kernel
theorem dX9_save_21 : decode cX9_save 21 = .ok (.aload_n 0, 1) := by decide +kernel
theorem dX9_save_22 : decode cX9_save 22 = .ok (.aload_n 0, 1) := by decide +kernel
theorem dX9_save_23 : decode cX9_save 23 = .ok (.getfield 16, 3) := by decide +kernel
theorem dX9_save_26 : decode cX9_save 26 = .ok (.putfield 19, 3) := by decide +kernel
theorem dX9_save_29 : decode cX9_save 29 = .ok (.aload_n 0, 1) := by decide +kernel
theorem dX9_save_30 : decode cX9_save 30 = .ok (.aload_n 1, 1) := by decide +kernel
theorem dX9_save_31 : decode cX9_save 31 = .ok (.putfield 16, 3) := by decide +kernel
theorem dX9_save_34 : decode cX9_save 34 = .ok (.aload_n 0, 1) := by decide +kernel
theorem dX9_save_35 : decode cX9_save 35 = .ok (.aload_n 0, 1) := by decide +kernel
theorem dX9_save_36 : decode cX9_save 36 = .ok (.getfield 212, 3) := by decide +kernel
theorem dX9_save_39 : decode cX9_save 39 = .ok (.iconst 1, 1) := by decide +kernel
theorem dX9_save_40 : decode cX9_save 40 = .ok (.iadd, 1) := by decide +kernel
theorem dX9_save_41 : decode cX9_save 41 = .ok (.iconst 3, 1) := by decide +kernel
theorem dX9_save_42 : decode cX9_save 42 = .ok (.invokestatic 229, 3) := by decide +kernel
theorem dX9_save_45 : decode cX9_save 45 = .ok (.putfield 212, 3) := by decide +kernel
theorem dX9_save_48 : decode cX9_save 48 = .ok (.return_, 1) := by decide +kernel
set_option maxRecDepth 20000 in
theorem ggX9_valueOf_X9_needIndex : GoodIn wsX9_valueOf wsX9_needIndex := goodIn_ca (goodIn_r _ [6, 7, 8] (by decide +kernel) (by decide +kernel)) (goodIn_sub (fun _ h => List.mem_cons_of_mem _ (List.mem_append_left _ (List.mem_append_right _ h))) (by decide +kernel))
set_option maxRecDepth 20000 in
theorem gX9_valueOf_X9_needIndex : GoodIn wsX9_valueOf (va_wsS RX9 25 yX9_needIndex wsX9_needIndex) := goodIn_app (goodIn_of _ (by decide +kernel)) ggX9_valueOf_X9_needIndex
set_option maxRecDepth 20000 in
theorem ggX9_valueOf_X9_needBetween : GoodIn wsX9_valueOf wsX9_needBetween := goodIn_ca (goodIn_r _ [11, 12, 13] (by decide +kernel) (by decide +kernel)) (goodIn_sub (fun _ h => List.mem_cons_of_mem _ (List.mem_append_right _ h)) (by decide +kernel))
set_option maxRecDepth 20000 in
theorem gX9_valueOf_X9_needBetween : GoodIn wsX9_valueOf (va_wsS RX9 33 yX9_needBetween wsX9_needBetween) := goodIn_app (goodIn_of _ (by decide +kernel)) ggX9_valueOf_X9_needBetween
set_option maxRecDepth 20000 in
theorem ggX9_valueOf_X4_valueAt : GoodIn wsX9_valueOf wsX4_valueAt := goodIn_r _ [18, 19, 20, 21, 22, 17, 23, 24, 25, 26, 27, 28, 29, 30, 31] (by decide +kernel) (by decide +kernel)
set_option maxRecDepth 20000 in
theorem gX9_valueOf_X4_valueAt : GoodIn wsX9_valueOf (wsV RX9 238 RX4 yX4_valueAt wsX4_valueAt) := goodIn_app (goodIn_of _ (by decide +kernel)) ggX9_valueOf_X4_valueAt
theorem dX9_valueOf_0 : decode cX9_valueOf 0 = .ok (.iload_n 1, 1) := by decide +kernel
theorem dX9_valueOf_1 : decode cX9_valueOf 1 = .ok (.aload_n 0, 1) := by decide +kernel
theorem dX9_valueOf_2 : decode cX9_valueOf 2 = .ok (.getfield 197, 3) := by decide +kernel
theorem dX9_valueOf_5 : decode cX9_valueOf 5 = .ok (.invokestatic 25, 3) := by decide +kernel
theorem dX9_valueOf_8 : decode cX9_valueOf 8 = .ok (.iload_n 2, 1) := by decide +kernel
theorem dX9_valueOf_9 : decode cX9_valueOf 9 = .ok (.i2l, 1) := by decide +kernel
theorem dX9_valueOf_10 : decode cX9_valueOf 10 = .ok (.lconst 0, 1) := by decide +kernel
theorem dX9_valueOf_11 : decode cX9_valueOf 11 = .ok (.aload_n 0, 1) := by decide +kernel
theorem dX9_valueOf_12 : decode cX9_valueOf 12 = .ok (.getfield 235, 3) := by decide +kernel
theorem dX9_valueOf_15 : decode cX9_valueOf 15 = .ok (.iconst 1, 1) := by decide +kernel
theorem dX9_valueOf_16 : decode cX9_valueOf 16 = .ok (.isub, 1) := by decide +kernel
theorem dX9_valueOf_17 : decode cX9_valueOf 17 = .ok (.i2l, 1) := by decide +kernel
theorem dX9_valueOf_18 : decode cX9_valueOf 18 = .ok (.invokestatic 33, 3) := by decide +kernel
theorem dX9_valueOf_21 : decode cX9_valueOf 21 = .ok (.aload_n 0, 1) := by decide +kernel
theorem dX9_valueOf_22 : decode cX9_valueOf 22 = .ok (.iload_n 1, 1) := by decide +kernel
theorem dX9_valueOf_23 : decode cX9_valueOf 23 = .ok (.iload_n 2, 1) := by decide +kernel
theorem dX9_valueOf_24 : decode cX9_valueOf 24 = .ok (.invokevirtual 238, 3) := by decide +kernel
theorem dX9_valueOf_27 : decode cX9_valueOf 27 = .ok (.lreturn, 1) := by decide +kernel
theorem dX9_needIndex_0 : decode cX9_needIndex 0 = .ok (.iload_n 0, 1) := by decide +kernel
theorem dX9_needIndex_1 : decode cX9_needIndex 1 = .ok (.ifCond .lt 8, 3) := by decide +kernel
theorem dX9_needIndex_4 : decode cX9_needIndex 4 = .ok (.iload_n 0, 1) := by decide +kernel
theorem dX9_needIndex_5 : decode cX9_needIndex 5 = .ok (.iload_n 1, 1) := by decide +kernel
theorem dX9_needIndex_6 : decode cX9_needIndex 6 = .ok (.if_icmp .lt 11, 3) := by decide +kernel
theorem dX9_needIndex_9 : decode cX9_needIndex 9 = .ok (.new 241, 3) := by decide +kernel
theorem dX9_needIndex_12 : decode cX9_needIndex 12 = .ok (.dup, 1) := by decide +kernel
theorem dX9_needIndex_13 : decode cX9_needIndex 13 = .ok (.invokespecial 243, 3) := by decide +kernel
theorem dX9_needIndex_16 : decode cX9_needIndex 16 = .ok (.athrow, 1) := by decide +kernel
theorem dX9_needIndex_17 : decode cX9_needIndex 17 = .ok (.return_, 1) := by decide +kernel
theorem dX9_needBetween_0 : decode cX9_needBetween 0 = .ok (.lload_n 0, 1) := by decide +kernel
theorem dX9_needBetween_1 : decode cX9_needBetween 1 = .ok (.lload_n 2, 1) := by decide +kernel
theorem dX9_needBetween_2 : decode cX9_needBetween 2 = .ok (.lcmp, 1) := by decide +kernel
theorem dX9_needBetween_3 : decode cX9_needBetween 3 = .ok (.ifCond .lt 10, 3) := by decide +kernel
theorem dX9_needBetween_6 : decode cX9_needBetween 6 = .ok (.lload_n 0, 1) := by decide +kernel
theorem dX9_needBetween_7 : decode cX9_needBetween 7 = .ok (.lload 4, 2) := by decide +kernel
theorem dX9_needBetween_9 : decode cX9_needBetween 9 = .ok (.lcmp, 1) := by decide +kernel
theorem dX9_needBetween_10 : decode cX9_needBetween 10 = .ok (.ifCond .le 11, 3) := by decide +kernel
theorem dX9_needBetween_13 : decode cX9_needBetween 13 = .ok (.new 244, 3) := by decide +kernel
theorem dX9_needBetween_16 : decode cX9_needBetween 16 = .ok (.dup, 1) := by decide +kernel
theorem dX9_needBetween_17 : decode cX9_needBetween 17 = .ok (.invokespecial 246, 3) := by decide +kernel
theorem dX9_needBetween_20 : decode cX9_needBetween 20 = .ok (.athrow, 1) := by decide +kernel
theorem dX9_needBetween_21 : decode cX9_needBetween 21 = .ok (.return_, 1) := by decide +kernel
theorem dX9_needState_0 : decode cX9_needState 0 = .ok (.iload_n 0, 1) := by decide +kernel
theorem dX9_needState_1 : decode cX9_needState 1 = .ok (.ifCond .ne 11, 3) := by decide +kernel
theorem dX9_needState_4 : decode cX9_needState 4 = .ok (.new 247, 3) := by decide +kernel
theorem dX9_needState_7 : decode cX9_needState 7 = .ok (.dup, 1) := by decide +kernel
theorem dX9_needState_8 : decode cX9_needState 8 = .ok (.invokespecial 249, 3) := by decide +kernel
theorem dX9_needState_11 : decode cX9_needState 11 = .ok (.athrow, 1) := by decide +kernel
theorem dX9_needState_12 : decode cX9_needState 12 = .ok (.return_, 1) := by decide +kernel
theorem dX9_hashed_0 : decode cX9_hashed 0 = .ok (.ldc2_w 250, 3) := by decide +kernel
theorem dX9_hashed_3 : decode cX9_hashed 3 = .ok (.lload_n 0, 1) := by decide +kernel
theorem dX9_hashed_4 : decode cX9_hashed 4 = .ok (.lmul, 1) := by decide +kernel
theorem dX9_hashed_5 : decode cX9_hashed 5 = .ok (.lload_n 2, 1) := by decide +kernel
theorem dX9_hashed_6 : decode cX9_hashed 6 = .ok (.ladd, 1) := by decide +kernel
theorem dX9_hashed_7 : decode cX9_hashed 7 = .ok (.lreturn, 1) := by decide +kernel
theorem dX10_init_0 : decode cX10_init 0 = .ok (.aload_n 0, 1) := by decide +kernel
theorem dX10_init_1 : decode cX10_init 1 = .ok (.invokespecial 1, 3) := by decide +kernel
theorem dX10_init_4 : decode cX10_init 4 = .ok (.aload_n 0, 1) := by decide +kernel
theorem dX10_init_5 : decode cX10_init 5 = .ok (.sipush 344, 3) := by decide +kernel
theorem dX10_init_8 : decode cX10_init 8 = .ok (.newarray .long, 2) := by decide +kernel
theorem dX10_init_10 : decode cX10_init 10 = .ok (.putfield 7, 3) := by decide +kernel
theorem dX10_init_13 : decode cX10_init 13 = .ok (.aload_n 0, 1) := by decide +kernel
theorem dX10_init_14 : decode cX10_init 14 = .ok (.sipush 1032, 3) := by decide +kernel
theorem dX10_init_17 : decode cX10_init 17 = .ok (.newarray .long, 2) := by decide +kernel
theorem dX10_init_19 : decode cX10_init 19 = .ok (.putfield 13, 3) := by decide +kernel
theorem dX10_init_22 : decode cX10_init 22 = .ok (.aload_n 0, 1) := by decide +kernel
theorem dX10_init_23 : decode cX10_init 23 = .ok (.getfield 7, 3) := by decide +kernel
theorem dX10_init_26 : decode cX10_init 26 = .ok (.iconst 2, 1) := by decide +kernel
theorem dX10_init_27 : decode cX10_init 27 = .ok (.ldc2_w 16, 3) := by decide +kernel
theorem dX10_init_30 : decode cX10_init 30 = .ok (.lastore, 1) := by decide +kernel
theorem dX10_init_31 : decode cX10_init 31 = .ok (.aload_n 0, 1) := by decide +kernel
theorem dX10_init_32 : decode cX10_init 32 = .ok (.getfield 7, 3) := by decide +kernel
theorem dX10_init_35 : decode cX10_init 35 = .ok (.bipush 6, 2) := by decide +kernel
theorem dX10_init_37 : decode cX10_init 37 = .ok (.ldc2_w 18, 3) := by decide +kernel
theorem dX10_init_40 : decode cX10_init 40 = .ok (.lastore, 1) := by decide +kernel
theorem dX10_init_41 : decode cX10_init 41 = .ok (.aload_n 0, 1) := by decide +kernel
theorem dX10_init_42 : decode cX10_init 42 = .ok (.getfield 7, 3) := by decide +kernel
theorem dX10_init_45 : decode cX10_init 45 = .ok (.bipush 7, 2) := by decide +kernel
theorem dX10_init_47 : decode cX10_init 47 = .ok (.ldc2_w 20, 3) := by decide +kernel
theorem dX10_init_50 : decode cX10_init 50 = .ok (.lastore, 1) := by decide +kernel
theorem dX10_init_51 : decode cX10_init 51 = .ok (.aload_n 0, 1) := by decide +kernel
theorem dX10_init_52 : decode cX10_init 52 = .ok (.getfield 7, 3) := by decide +kernel
theorem dX10_init_55 : decode cX10_init 55 = .ok (.bipush 8, 2) := by decide +kernel
theorem dX10_init_57 : decode cX10_init 57 = .ok (.ldc2_w 22, 3) := by decide +kernel
theorem dX10_init_60 : decode cX10_init 60 = .ok (.lastore, 1) := by decide +kernel
theorem dX10_init_61 : decode cX10_init 61 = .ok (.aload_n 0, 1) := by decide +kernel
theorem dX10_init_62 : decode cX10_init 62 = .ok (.getfield 7, 3) := by decide +kernel
theorem dX10_init_65 : decode cX10_init 65 = .ok (.bipush 9, 2) := by decide +kernel
theorem dX10_init_67 : decode cX10_init 67 = .ok (.ldc2_w 24, 3) := by decide +kernel
theorem dX10_init_70 : decode cX10_init 70 = .ok (.lastore, 1) := by decide +kernel
theorem dX10_init_71 : decode cX10_init 71 = .ok (.iconst 0, 1) := by decide +kernel
theorem dX10_init_72 : decode cX10_init 72 = .ok (.istore_n 1, 1) := by decide +kernel
theorem dX10_init_73 : decode cX10_init 73 = .ok (.iload_n 1, 1) := by decide +kernel
theorem dX10_init_74 : decode cX10_init 74 = .ok (.iconst 4, 1) := by decide +kernel
theorem dX10_init_75 : decode cX10_init 75 = .ok (.if_icmp .ge 21, 3) := by decide +kernel
theorem dX10_init_78 : decode cX10_init 78 = .ok (.aload_n 0, 1) := by decide +kernel
theorem dX10_init_79 : decode cX10_init 79 = .ok (.getfield 7, 3) := by decide +kernel
theorem dX10_init_82 : decode cX10_init 82 = .ok (.bipush 14, 2) := by decide +kernel
theorem dX10_init_84 : decode cX10_init 84 = .ok (.iload_n 1, 1) := by decide +kernel
theorem dX10_init_85 : decode cX10_init 85 = .ok (.iadd, 1) := by decide +kernel
theorem dX10_init_86 : decode cX10_init 86 = .ok (.ldc2_w 26, 3) := by decide +kernel
theorem dX10_init_89 : decode cX10_init 89 = .ok (.lastore, 1) := by decide +kernel

set_option maxRecDepth 20000 in
theorem gL_total_X9_total : GoodIn wsL_total (wsV RL 58 RX9 yX9_total wsX9_total) := goodIn_app (goodIn_of _ (by decide +kernel)) ggL_total_X9_total
theorem dL_total_0 : decode cL_total 0 = .ok (.aload_n 2, 1) := by decide +kernel
theorem dL_total_1 : decode cL_total 1 = .ok (.iconst 0, 1) := by decide +kernel
theorem dL_total_2 : decode cL_total 2 = .ok (.aload_n 0, 1) := by decide +kernel
theorem dL_total_3 : decode cL_total 3 = .ok (.iload_n 1, 1) := by decide +kernel
theorem dL_total_4 : decode cL_total 4 = .ok (.invokevirtual 58, 3) := by decide +kernel
theorem dL_total_7 : decode cL_total 7 = .ok (.lastore, 1) := by decide +kernel
theorem dL_total_8 : decode cL_total 8 = .ok (.goto 6, 3) := by decide +kernel
theorem dL_total_11 : decode cL_total 11 = .ok (.astore_n 3, 1) := by decide +kernel
theorem dL_total_12 : decode cL_total 12 = .ok (.iconst 1, 1) := by decide +kernel
theorem dL_total_13 : decode cL_total 13 = .ok (.ireturn, 1) := by decide +kernel
theorem dL_total_14 : decode cL_total 14 = .ok (.iconst 0, 1) := by decide +kernel
theorem dL_total_15 : decode cL_total 15 = .ok (.ireturn, 1) := by decide +kernel
set_option maxRecDepth 20000 in
theorem ggL_flowFor_X9_flowFor : GoodIn wsL_flowFor wsX9_flowFor := goodIn_ca (goodIn_r _ [6, 7, 8, 9, 10, 11, 12, 13, 5, 14, 15, 16, 17, 18, 19, 20, 21, 22, 23, 24, 25, 26, 27, 28, 29, 30, 31, 32, 33, 34, 35, 36, 37, 38, 39, 40, 41, 42, 43, 44, 45, 46, 47, 48, 49, 50, 51, 52, 53, 54, 55, 56, 57, 58, 59, 60, 61, 62, 63, 64, 65, 66, 67, 68, 69, 70, 71, 72, 73, 74, 75, 76, 77, 78, 79, 80, 81, 82, 83, 84, 85, 86, 87] (by decide +kernel) (by decide +kernel)) (goodIn_sub (fun _ h => List.mem_cons_of_mem _ (List.mem_append_right _ h)) (by decide +kernel))
set_option maxRecDepth 20000 in
theorem gL_flowFor_X9_flowFor : GoodIn wsL_flowFor (wsV RL 61 RX9 yX9_flowFor wsX9_flowFor) := goodIn_app (goodIn_of _ (by decide +kernel)) ggL_flowFor_X9_flowFor
theorem dL_flowFor_0 : decode cL_flowFor 0 = .ok (.aload 4, 2) := by decide +kernel
theorem dL_flowFor_2 : decode cL_flowFor 2 = .ok (.iconst 0, 1) := by decide +kernel
theorem dL_flowFor_3 : decode cL_flowFor 3 = .ok (.aload_n 0, 1) := by decide +kernel
theorem dL_flowFor_4 : decode cL_flowFor 4 = .ok (.iload_n 1, 1) := by decide +kernel
theorem dL_flowFor_5 : decode cL_flowFor 5 = .ok (.iload_n 2, 1) := by decide +kernel
theorem dL_flowFor_6 : decode cL_flowFor 6 = .ok (.iload_n 3, 1) := by decide +kernel
theorem dL_flowFor_7 : decode cL_flowFor 7 = .ok (.invokevirtual 61, 3) := by decide +kernel
theorem dL_flowFor_10 : decode cL_flowFor 10 = .ok (.lastore, 1) := by decide +kernel
theorem dL_flowFor_11 : decode cL_flowFor 11 = .ok (.goto 7, 3) := by decide +kernel
theorem dL_flowFor_14 : decode cL_flowFor 14 = .ok (.astore 5, 2) := by decide +kernel
theorem dL_flowFor_16 : decode cL_flowFor 16 = .ok (.iconst 1, 1) := by decide +kernel
theorem dL_flowFor_17 : decode cL_flowFor 17 = .ok (.ireturn, 1) := by decide +kernel
theorem dL_flowFor_18 : decode cL_flowFor 18 = .ok (.iconst 0, 1) := by decide +kernel
theorem dL_flowFor_19 : decode cL_flowFor 19 = .ok (.ireturn, 1) := by decide +kernel
set_option maxRecDepth 20000 in
theorem ggL_differentialFor_X9_differentialFor : GoodIn wsL_differentialFor wsX9_differentialFor := goodIn_ca (goodIn_r _ [6, 7, 8, 9, 10, 11, 12, 13, 5, 14, 15, 16, 17, 18, 19, 20, 21, 22, 23, 24, 25, 26, 27, 28, 29, 30, 31, 32, 33, 34, 35, 36, 37, 38, 39, 40, 41, 42, 43, 44, 45, 46, 47, 48, 49, 50, 51, 52, 53, 54, 55, 56, 57, 58, 59, 60, 61, 62, 63, 64, 65, 66, 67, 68, 69, 70, 71, 72, 73, 74, 75, 76, 77, 78, 79, 80, 81, 82, 83, 84, 85, 86, 87, 88, 89, 90, 91, 92, 93, 94, 95, 96, 97, 98, 99, 100, 101, 102] (by decide +kernel) (by decide +kernel)) (goodIn_sub (fun _ h => List.mem_cons_of_mem _ (List.mem_append_right _ h)) (by decide +kernel))
set_option maxRecDepth 20000 in
theorem gL_differentialFor_X9_differentialFor : GoodIn wsL_differentialFor (wsV RL 65 RX9 yX9_differentialFor wsX9_differentialFor) := goodIn_app (goodIn_of _ (by decide +kernel)) ggL_differentialFor_X9_differentialFor
theorem dL_differentialFor_0 : decode cL_differentialFor 0 = .ok (.aload_n 3, 1) := by decide +kernel
theorem dL_differentialFor_1 : decode cL_differentialFor 1 = .ok (.iconst 0, 1) := by decide +kernel
theorem dL_differentialFor_2 : decode cL_differentialFor 2 = .ok (.aload_n 0, 1) := by decide +kernel
theorem dL_differentialFor_3 : decode cL_differentialFor 3 = .ok (.lload_n 1, 1) := by decide +kernel
theorem dL_differentialFor_4 : decode cL_differentialFor 4 = .ok (.invokevirtual 65, 3) := by decide +kernel
theorem dL_differentialFor_7 : decode cL_differentialFor 7 = .ok (.i2l, 1) := by decide +kernel
theorem dL_differentialFor_8 : decode cL_differentialFor 8 = .ok (.lastore, 1) := by decide +kernel
theorem dL_differentialFor_9 : decode cL_differentialFor 9 = .ok (.goto 7, 3) := by decide +kernel
theorem dL_differentialFor_12 : decode cL_differentialFor 12 = .ok (.astore 4, 2) := by decide +kernel
theorem dL_differentialFor_14 : decode cL_differentialFor 14 = .ok (.iconst 1, 1) := by decide +kernel
theorem dL_differentialFor_15 : decode cL_differentialFor 15 = .ok (.ireturn, 1) := by decide +kernel
theorem dL_differentialFor_16 : decode cL_differentialFor 16 = .ok (.iconst 0, 1) := by decide +kernel
theorem dL_differentialFor_17 : decode cL_differentialFor 17 = .ok (.ireturn, 1) := by decide +kernel
set_option maxRecDepth 20000 in
theorem ggL_hour_X9_hour : GoodIn wsL_hour wsX9_hour := goodIn_ca (goodIn_ca (goodIn_r _ [7, 8, 9, 10, 11, 6, 12, 13, 14, 15, 16, 17, 18, 19, 20, 21, 22, 23, 24, 25, 26, 27, 28, 29, 30, 31, 32, 33, 34, 35, 36, 37, 38, 39, 40, 41, 42, 43, 44, 45, 46, 47, 48, 49, 50, 51, 52, 53, 54, 55, 56, 57, 58, 59, 60, 61, 62, 63, 64, 65, 66, 67] (by decide +kernel) (by decide +kernel)) (goodIn_sub (fun _ h => List.mem_cons_of_mem _ (List.mem_append_left _ (List.mem_append_right _ h))) (by decide +kernel))) (goodIn_sub (fun _ h => List.mem_cons_of_mem _ (List.mem_append_right _ h)) (by decide +kernel))
set_option maxRecDepth 20000 in
theorem gL_hour_X9_hour : GoodIn wsL_hour (wsV RL 69 RX9 yX9_hour wsX9_hour) := goodIn_app (goodIn_of _ (by decide +kernel)) ggL_hour_X9_hour
theorem dL_hour_0 : decode cL_hour 0 = .ok (.aload_n 3, 1) := by decide +kernel
theorem dL_hour_1 : decode cL_hour 1 = .ok (.iconst 0, 1) := by decide +kernel
theorem dL_hour_2 : decode cL_hour 2 = .ok (.aload_n 0, 1) := by decide +kernel
theorem dL_hour_3 : decode cL_hour 3 = .ok (.iload_n 1, 1) := by decide +kernel
theorem dL_hour_4 : decode cL_hour 4 = .ok (.iload_n 2, 1) := by decide +kernel
theorem dL_hour_5 : decode cL_hour 5 = .ok (.invokevirtual 69, 3) := by decide +kernel
theorem dL_hour_8 : decode cL_hour 8 = .ok (.lastore, 1) := by decide +kernel
theorem dL_hour_9 : decode cL_hour 9 = .ok (.goto 11, 3) := by decide +kernel
theorem dL_hour_12 : decode cL_hour 12 = .ok (.astore 4, 2) := by decide +kernel
theorem dL_hour_14 : decode cL_hour 14 = .ok (.iconst 1, 1) := by decide +kernel
theorem dL_hour_15 : decode cL_hour 15 = .ok (.ireturn, 1) := by decide +kernel
theorem dL_hour_16 : decode cL_hour 16 = .ok (.astore 4, 2) := by decide +kernel
theorem dL_hour_18 : decode cL_hour 18 = .ok (.iconst 2, 1) := by decide +kernel
theorem dL_hour_19 : decode cL_hour 19 = .ok (.ireturn, 1) := by decide +kernel
theorem dL_hour_20 : decode cL_hour 20 = .ok (.iconst 0, 1) := by decide +kernel
theorem dL_hour_21 : decode cL_hour 21 = .ok (.ireturn, 1) := by decide +kernel
set_option maxRecDepth 20000 in
theorem ggL_day_X9_day : GoodIn wsL_day wsX9_day := goodIn_ca (goodIn_ca (goodIn_r _ [7, 8, 9, 10, 11, 6, 12, 13, 14, 15, 16, 17, 18, 19, 20, 21, 22, 23, 24, 25, 26, 27, 28, 29, 30, 31, 32, 33, 34, 35, 36, 37, 38, 39, 40, 41, 42, 43, 44, 45, 46, 47, 48, 49, 50, 51, 52, 53, 54, 55, 56, 57, 58, 59, 60, 61, 62, 63, 64, 65, 66, 67] (by decide +kernel) (by decide +kernel)) (goodIn_sub (fun _ h => List.mem_cons_of_mem _ (List.mem_append_left _ (List.mem_append_right _ h))) (by decide +kernel))) (goodIn_sub (fun _ h => List.mem_cons_of_mem _ (List.mem_append_right _ h)) (by decide +kernel))
set_option maxRecDepth 20000 in
theorem gL_day_X9_day : GoodIn wsL_day (wsV RL 73 RX9 yX9_day wsX9_day) := goodIn_app (goodIn_of _ (by decide +kernel)) ggL_day_X9_day
theorem dL_day_0 : decode cL_day 0 = .ok (.aload_n 3, 1) := by decide +kernel
theorem dL_day_1 : decode cL_day 1 = .ok (.iconst 0, 1) := by decide +kernel
theorem dL_day_2 : decode cL_day 2 = .ok (.aload_n 0, 1) := by decide +kernel
theorem dL_day_3 : decode cL_day 3 = .ok (.iload_n 1, 1) := by decide +kernel
theorem dL_day_4 : decode cL_day 4 = .ok (.iload_n 2, 1) := by decide +kernel
theorem dL_day_5 : decode cL_day 5 = .ok (.invokevirtual 73, 3) := by decide +kernel
theorem dL_day_8 : decode cL_day 8 = .ok (.lastore, 1) := by decide +kernel
theorem dL_day_9 : decode cL_day 9 = .ok (.goto 11, 3) := by decide +kernel
theorem dL_day_12 : decode cL_day 12 = .ok (.astore 4, 2) := by decide +kernel
theorem dL_day_14 : decode cL_day 14 = .ok (.iconst 1, 1) := by decide +kernel
theorem dL_day_15 : decode cL_day 15 = .ok (.ireturn, 1) := by decide +kernel
theorem dL_day_16 : decode cL_day 16 = .ok (.astore 4, 2) := by decide +kernel
theorem dL_day_18 : decode cL_day 18 = .ok (.iconst 2, 1) := by decide +kernel
theorem dL_day_19 : decode cL_day 19 = .ok (.ireturn, 1) := by decide +kernel
theorem dL_day_20 : decode cL_day 20 = .ok (.iconst 0, 1) := by decide +kernel
theorem dL_day_21 : decode cL_day 21 = .ok (.ireturn, 1) := by decide +kernel
set_option maxRecDepth 20000 in
theorem ggL_event_X9_event : GoodIn wsL_event wsX9_event := goodIn_ca (goodIn_ca (goodIn_r _ [7, 8, 9, 10, 11, 6, 12, 13, 14, 15, 16, 17, 18, 19, 20, 21, 22, 23, 24, 25, 26, 27, 28, 29, 30, 31, 32, 33, 34, 35, 36, 37, 38, 39, 40, 41, 42, 43, 44, 45, 46, 47, 48, 49, 50, 51, 52, 53, 54, 55, 56, 57, 58, 59, 60, 61, 62, 63, 64, 65, 66, 67] (by decide +kernel) (by decide +kernel)) (goodIn_sub (fun _ h => List.mem_cons_of_mem _ (List.mem_append_left _ (List.mem_append_right _ h))) (by decide +kernel))) (goodIn_sub (fun _ h => List.mem_cons_of_mem _ (List.mem_append_right _ h)) (by decide +kernel))
set_option maxRecDepth 20000 in
theorem gL_event_X9_event : GoodIn wsL_event (wsV RL 76 RX9 yX9_event wsX9_event) := goodIn_app (goodIn_of _ (by decide +kernel)) ggL_event_X9_event
theorem dL_event_0 : decode cL_event 0 = .ok (.aload_n 3, 1) := by decide +kernel
theorem dL_event_1 : decode cL_event 1 = .ok (.iconst 0, 1) := by decide +kernel
theorem dL_event_2 : decode cL_event 2 = .ok (.aload_n 0, 1) := by decide +kernel
theorem dL_event_3 : decode cL_event 3 = .ok (.iload_n 1, 1) := by decide +kernel
theorem dL_event_4 : decode cL_event 4 = .ok (.iload_n 2, 1) := by decide +kernel
theorem dL_event_5 : decode cL_event 5 = .ok (.invokevirtual 76, 3) := by decide +kernel
theorem dL_event_8 : decode cL_event 8 = .ok (.lastore, 1) := by decide +kernel
theorem dL_event_9 : decode cL_event 9 = .ok (.goto 11, 3) := by decide +kernel
theorem dL_event_12 : decode cL_event 12 = .ok (.astore 4, 2) := by decide +kernel
theorem dL_event_14 : decode cL_event 14 = .ok (.iconst 1, 1) := by decide +kernel
theorem dL_event_15 : decode cL_event 15 = .ok (.ireturn, 1) := by decide +kernel
theorem dL_event_16 : decode cL_event 16 = .ok (.astore 4, 2) := by decide +kernel
theorem dL_event_18 : decode cL_event 18 = .ok (.iconst 2, 1) := by decide +kernel
theorem dL_event_19 : decode cL_event 19 = .ok (.ireturn, 1) := by decide +kernel
theorem dL_event_20 : decode cL_event 20 = .ok (.iconst 0, 1) := by decide +kernel
theorem dL_event_21 : decode cL_event 21 = .ok (.ireturn, 1) := by decide +kernel
set_option maxRecDepth 20000 in
theorem ggL_undo_X9_undo : GoodIn wsL_undo wsX9_undo := goodIn_ca (goodIn_r _ [6, 7, 8, 9, 10, 11, 12, 13, 5, 14, 15, 16, 17, 18, 19, 20, 21] (by decide +kernel) (by decide +kernel)) (goodIn_sub (fun _ h => List.mem_cons_of_mem _ (List.mem_append_right _ h)) (by decide +kernel))
set_option maxRecDepth 20000 in
theorem gL_undo_X9_undo : GoodIn wsL_undo (wsV RL 79 RX9 yX9_undo wsX9_undo) := goodIn_app (goodIn_of _ (by decide +kernel)) ggL_undo_X9_undo
theorem dL_undo_0 : decode cL_undo 0 = .ok (.aload_n 1, 1) := by decide +kernel
theorem dL_undo_1 : decode cL_undo 1 = .ok (.iconst 0, 1) := by decide +kernel
theorem dL_undo_2 : decode cL_undo 2 = .ok (.aload_n 0, 1) := by decide +kernel
theorem dL_undo_3 : decode cL_undo 3 = .ok (.invokevirtual 79, 3) := by decide +kernel
theorem dL_undo_6 : decode cL_undo 6 = .ok (.i2l, 1) := by decide +kernel
theorem dL_undo_7 : decode cL_undo 7 = .ok (.lastore, 1) := by decide +kernel
theorem dL_undo_8 : decode cL_undo 8 = .ok (.goto 6, 3) := by decide +kernel
theorem dL_undo_11 : decode cL_undo 11 = .ok (.astore_n 2, 1) := by decide +kernel
theorem dL_undo_12 : decode cL_undo 12 = .ok (.iconst 1, 1) := by decide +kernel
theorem dL_undo_13 : decode cL_undo 13 = .ok (.ireturn, 1) := by decide +kernel
theorem dL_undo_14 : decode cL_undo 14 = .ok (.iconst 0, 1) := by decide +kernel
theorem dL_undo_15 : decode cL_undo 15 = .ok (.ireturn, 1) := by decide +kernel
set_option maxRecDepth 20000 in
theorem ggL_law_X9_init : GoodIn wsL_law wsX9_init := goodIn_r _ [10, 11, 12, 13, 14, 15, 16, 17, 18, 19, 20, 21, 22, 23, 24, 25, 26, 27, 28, 29, 30, 31, 32, 33, 34, 35, 36, 37, 38, 39, 40, 41, 42, 43, 44, 45, 46, 47, 48, 49, 50, 51, 52, 53, 54, 55, 56, 57, 58, 59, 60, 61, 62, 63, 64, 65, 66, 67, 68, 69, 70, 71, 72, 73, 74, 75, 76, 77, 78, 79, 80, 81, 82, 83, 84, 85, 86, 87, 88, 89, 90, 91, 92, 93, 94, 95, 96, 97, 98, 99, 100, 101, 6, 102, 971, 972, 973, 974, 975, 976, 977, 978, 979, 980, 981, 982, 983, 984, 985, 986, 987, 988, 989, 990, 961, 962, 963, 964, 965, 991, 992, 993, 994, 995, 996, 997, 998, 999, 1000, 1001, 1002, 1003, 1004, 1005, 1006, 1007, 1008, 1009, 1010, 1011, 1012, 1013, 1014, 1015, 1016, 1017, 1018, 1019, 1020, 1021, 1022, 1023, 1024, 1025] (by decide +kernel) (by decide +kernel)
set_option maxRecDepth 20000 in
theorem gL_law_X9_init : GoodIn wsL_law (wsX9_init) := ggL_law_X9_init
set_option maxRecDepth 20000 in
theorem ggL_law_X10_init : GoodIn wsL_law wsX10_init := goodIn_r _ [105, 106, 12, 13, 6, 107, 108, 109, 110, 111, 112, 113, 114, 115, 966, 967, 968, 969, 970] (by decide +kernel) (by decide +kernel)
set_option maxRecDepth 20000 in
theorem gL_law_X10_init : GoodIn wsL_law (wsX10_init) := ggL_law_X10_init
set_option maxRecDepth 20000 in
theorem ggL_law_L_setSpan : GoodIn wsL_law wsL_setSpan := goodIn_ca (goodIn_ca (goodIn_r _ [119, 120, 121, 122, 123, 124, 2, 125, 126, 127, 17, 128, 129, 130, 131, 132, 133, 134, 135, 136, 137, 138, 139, 140, 141, 142, 20, 19, 18, 143, 144, 145, 146, 147, 148, 149, 150, 16, 151, 152, 153, 27, 28, 29, 30, 31, 154, 155, 35, 39, 156, 157, 158, 43, 47, 51, 55, 56, 57, 159, 160, 161, 26, 162, 63, 163, 62, 65, 164, 165, 166, 167, 34, 168, 69, 70, 72, 169, 170, 171, 172, 73, 173, 174, 175, 38, 176, 177, 178, 77, 179, 180, 181, 42, 182, 183, 184, 185, 186, 187, 81, 188, 189, 190, 46, 191, 192, 193, 88, 89, 194, 195, 196, 87, 197, 198, 199, 200, 201, 202, 203, 204, 50, 205, 206, 207, 208, 209, 210, 211, 54, 212, 102, 213, 214, 215, 216, 217, 218, 219, 220, 221, 222, 223, 224, 225, 226, 227, 228, 229, 230, 231, 100, 232, 233, 234, 235, 236, 237, 238, 239, 101, 961, 962, 963, 964, 965, 991, 992, 993, 994, 995, 996, 971, 972, 973, 974, 975, 976, 977, 978, 979, 980, 981, 982, 983, 984, 985, 986, 987, 988, 989, 990, 997, 998, 999, 1000, 1001, 1002, 1003, 1004, 1005, 1006, 1007, 1008, 1009, 1010, 1011, 1012, 1013, 1022, 1023, 1024, 1025, 1014, 1015, 1016, 1017, 1018, 1019, 1020, 1021] (by decide +kernel) (by decide +kernel)) (goodIn_sub (fun _ h => List.mem_append_left _ (List.mem_append_left _ (List.mem_append_right _ h))) (by decide +kernel))) (goodIn_sub (fun _ h => List.mem_append_left _ (List.mem_append_right _ h)) (by decide +kernel))
set_option maxRecDepth 20000 in
theorem gL_law_L_setSpan : GoodIn wsL_law (va_wsS RL 87 yL_setSpan wsL_setSpan) := goodIn_app (goodIn_of _ (by decide +kernel)) ggL_law_L_setSpan
set_option maxRecDepth 20000 in
theorem ggL_law_X10_setSpan : GoodIn wsL_law wsX10_setSpan := goodIn_r _ [243, 244, 245, 246, 247, 5, 248, 249, 250, 251, 252, 253, 254, 255, 256, 257, 258, 259, 260, 261, 107, 262, 263, 264, 265, 266, 108, 267, 268, 269, 270, 271, 272, 273, 274, 966, 967, 968, 969, 970] (by decide +kernel) (by decide +kernel)
set_option maxRecDepth 20000 in
theorem gL_law_X10_setSpan : GoodIn wsL_law (wsV RL 92 RX10 yX10_setSpan wsX10_setSpan) := goodIn_app (goodIn_of _ (by decide +kernel)) ggL_law_X10_setSpan
set_option maxRecDepth 20000 in
theorem ggL_law_X10_thrown : GoodIn wsL_law wsX10_thrown := goodIn_r _ [278, 257, 966, 967, 968, 969, 970] (by decide +kernel) (by decide +kernel)
set_option maxRecDepth 20000 in
theorem gL_law_X10_thrown : GoodIn wsL_law (wsV RL 93 RX10 yX10_thrown wsX10_thrown) := goodIn_app (goodIn_of _ (by decide +kernel)) ggL_law_X10_thrown
set_option maxRecDepth 20000 in
theorem ggL_law_L_setDamping : GoodIn wsL_law wsL_setDamping := goodIn_ca (goodIn_ca (goodIn_r _ [281, 120, 121, 282, 283, 284, 2, 285, 286, 17, 287, 129, 130, 131, 132, 133, 134, 135, 136, 137, 138, 139, 140, 141, 142, 20, 19, 18, 143, 144, 145, 146, 147, 148, 149, 150, 16, 151, 152, 153, 27, 28, 29, 30, 31, 154, 155, 35, 39, 156, 157, 158, 43, 47, 51, 55, 56, 57, 159, 160, 161, 26, 162, 63, 163, 62, 65, 164, 165, 166, 167, 34, 168, 69, 70, 72, 169, 170, 171, 172, 73, 173, 174, 175, 38, 176, 177, 178, 77, 179, 180, 181, 42, 182, 183, 184, 185, 186, 187, 81, 188, 189, 190, 46, 191, 192, 193, 88, 89, 194, 195, 196, 87, 197, 198, 199, 200, 201, 202, 203, 204, 50, 205, 206, 207, 208, 209, 210, 211, 54, 212, 102, 213, 214, 215, 216, 217, 218, 219, 220, 221, 222, 223, 224, 225, 226, 227, 228, 229, 230, 231, 100, 232, 233, 234, 235, 236, 237, 238, 239, 101, 961, 962, 963, 964, 965, 991, 992, 993, 994, 995, 996, 971, 972, 973, 974, 975, 976, 977, 978, 979, 980, 981, 982, 983, 984, 985, 986, 987, 988, 989, 990, 997, 998, 999, 1000, 1001, 1002, 1003, 1004, 1005, 1006, 1007, 1008, 1009, 1010, 1011, 1012, 1013, 1022, 1023, 1024, 1025, 1014, 1015, 1016, 1017, 1018, 1019, 1020, 1021] (by decide +kernel) (by decide +kernel)) (goodIn_sub (fun _ h => List.mem_append_left _ (List.mem_append_left _ (List.mem_append_right _ h))) (by decide +kernel))) (goodIn_sub (fun _ h => List.mem_append_left _ (List.mem_append_right _ h)) (by decide +kernel))
set_option maxRecDepth 20000 in
theorem gL_law_L_setDamping : GoodIn wsL_law (va_wsS RL 96 yL_setDamping wsL_setDamping) := goodIn_app (goodIn_of _ (by decide +kernel)) ggL_law_L_setDamping
set_option maxRecDepth 20000 in
theorem ggL_law_X10_setDamping : GoodIn wsL_law wsX10_setDamping := goodIn_r _ [291, 292, 246, 247, 5, 248, 249, 250, 251, 252, 253, 254, 255, 256, 257, 258, 259, 260, 261, 107, 262, 263, 264, 265, 266, 108, 267, 268, 269, 270, 271, 272, 273, 274, 966, 967, 968, 969, 970] (by decide +kernel) (by decide +kernel)
set_option maxRecDepth 20000 in
theorem gL_law_X10_setDamping : GoodIn wsL_law (wsV RL 98 RX10 yX10_setDamping wsX10_setDamping) := goodIn_app (goodIn_of _ (by decide +kernel)) ggL_law_X10_setDamping
set_option maxRecDepth 20000 in
theorem ggL_law_L_setMode : GoodIn wsL_law wsL_setMode := goodIn_ca (goodIn_r _ [295, 121, 296, 297, 298, 2, 299, 17, 300, 301, 134, 135, 136, 137, 138, 139, 140, 141, 142, 20, 19, 18, 143, 144, 145, 146, 147, 148, 149, 150, 16, 151, 152, 153, 27, 28, 29, 30, 31, 154, 155, 35, 39, 156, 157, 158, 43, 47, 51, 55, 56, 57, 159, 160, 161, 26, 162, 63, 163, 62, 65, 164, 165, 166, 167, 34, 168, 69, 70, 72, 169, 170, 171, 172, 73, 173, 174, 175, 38, 176, 177, 178, 77, 179, 180, 181, 42, 182, 183, 184, 185, 186, 187, 81, 188, 189, 190, 46, 191, 192, 193, 88, 89, 194, 195, 196, 87, 197, 198, 199, 200, 201, 202, 203, 204, 50, 205, 206, 207, 208, 209, 210, 211, 54, 212, 102, 213, 214, 215, 220, 221, 222, 223, 224, 225, 226, 227, 228, 229, 230, 231, 100, 232, 233, 234, 235, 236, 237, 238, 239, 101, 961, 962, 963, 964, 965, 971, 972, 973, 974, 975, 976, 977, 978, 979, 980, 981, 982, 983, 984, 985, 986, 987, 988, 989, 990, 997, 998, 999, 1000, 991, 992, 993, 994, 995, 996, 1001, 1002, 1003, 1004, 1005, 1006, 1007, 1008, 1009, 1010, 1011, 1012, 1013, 1022, 1023, 1024, 1025, 1014, 1015, 1016, 1017, 1018, 1019, 1020, 1021] (by decide +kernel) (by decide +kernel)) (goodIn_sub (fun _ h => List.mem_append_left _ (List.mem_append_right _ h)) (by decide +kernel))
set_option maxRecDepth 20000 in
theorem gL_law_L_setMode : GoodIn wsL_law (va_wsS RL 99 yL_setMode wsL_setMode) := goodIn_app (goodIn_of _ (by decide +kernel)) ggL_law_L_setMode
set_option maxRecDepth 20000 in
theorem ggL_law_X10_setMode : GoodIn wsL_law wsX10_setMode := goodIn_r _ [305, 250, 251, 5, 252, 258, 259, 260, 261, 107, 262, 263, 264, 265, 257, 266, 108, 267, 268, 269, 270, 271, 272, 273, 274, 253, 254, 255, 256, 966, 967, 968, 969, 970] (by decide +kernel) (by decide +kernel)
set_option maxRecDepth 20000 in
theorem gL_law_X10_setMode : GoodIn wsL_law (wsV RL 102 RX10 yX10_setMode wsX10_setMode) := goodIn_app (goodIn_of _ (by decide +kernel)) ggL_law_X10_setMode
set_option maxRecDepth 20000 in
theorem ggL_law_L_setDensity : GoodIn wsL_law wsL_setDensity := goodIn_ca (goodIn_ca (goodIn_r _ [308, 120, 121, 309, 310, 311, 2, 312, 313, 17, 300, 314, 129, 130, 131, 132, 133, 134, 135, 136, 137, 138, 139, 140, 141, 142, 20, 19, 18, 143, 144, 145, 146, 147, 148, 149, 150, 16, 151, 152, 153, 27, 28, 29, 30, 31, 154, 155, 35, 39, 156, 157, 158, 43, 47, 51, 55, 56, 57, 159, 160, 161, 26, 162, 63, 163, 62, 65, 164, 165, 166, 167, 34, 168, 69, 70, 72, 169, 170, 171, 172, 73, 173, 174, 175, 38, 176, 177, 178, 77, 179, 180, 181, 42, 182, 183, 184, 185, 186, 187, 81, 188, 189, 190, 46, 191, 192, 193, 88, 89, 194, 195, 196, 87, 197, 198, 199, 200, 201, 202, 203, 204, 50, 205, 206, 207, 208, 209, 210, 211, 54, 212, 102, 213, 214, 215, 220, 221, 222, 223, 224, 225, 226, 227, 228, 229, 230, 231, 100, 232, 233, 234, 235, 236, 237, 238, 239, 101, 961, 962, 963, 964, 965, 971, 972, 973, 974, 975, 976, 977, 978, 979, 980, 981, 982, 983, 984, 985, 986, 987, 988, 989, 990, 997, 998, 999, 1000, 991, 992, 993, 994, 995, 996, 1001, 1002, 1003, 1004, 1005, 1006, 1007, 1008, 1009, 1010, 1011, 1012, 1013, 1022, 1023, 1024, 1025, 1014, 1015, 1016, 1017, 1018, 1019, 1020, 1021] (by decide +kernel) (by decide +kernel)) (goodIn_sub (fun _ h => List.mem_append_left _ (List.mem_append_left _ (List.mem_append_right _ h))) (by decide +kernel))) (goodIn_sub (fun _ h => List.mem_append_left _ (List.mem_append_right _ h)) (by decide +kernel))
set_option maxRecDepth 20000 in
theorem gL_law_L_setDensity : GoodIn wsL_law (va_wsS RL 103 yL_setDensity wsL_setDensity) := goodIn_app (goodIn_of _ (by decide +kernel)) ggL_law_L_setDensity
set_option maxRecDepth 20000 in
theorem ggL_law_X10_setDensity : GoodIn wsL_law wsX10_setDensity := goodIn_r _ [318, 319, 320, 250, 251, 5, 252, 253, 254, 255, 256, 257, 258, 259, 260, 261, 107, 262, 263, 264, 265, 266, 108, 267, 268, 269, 270, 271, 272, 273, 274, 966, 967, 968, 969, 970] (by decide +kernel) (by decide +kernel)
set_option maxRecDepth 20000 in
theorem gL_law_X10_setDensity : GoodIn wsL_law (wsV RL 105 RX10 yX10_setDensity wsX10_setDensity) := goodIn_app (goodIn_of _ (by decide +kernel)) ggL_law_X10_setDensity
set_option maxRecDepth 20000 in
theorem ggL_law_L_setFactor : GoodIn wsL_law wsL_setFactor := goodIn_ca (goodIn_ca (goodIn_r _ [323, 120, 121, 324, 325, 326, 2, 327, 328, 329, 17, 300, 330, 129, 130, 131, 132, 133, 134, 135, 136, 137, 138, 139, 140, 141, 142, 20, 19, 18, 143, 144, 145, 146, 147, 148, 149, 150, 16, 151, 152, 153, 27, 28, 29, 30, 31, 154, 155, 35, 39, 156, 157, 158, 43, 47, 51, 55, 56, 57, 159, 160, 161, 26, 162, 63, 163, 62, 65, 164, 165, 166, 167, 34, 168, 69, 70, 72, 169, 170, 171, 172, 73, 173, 174, 175, 38, 176, 177, 178, 77, 179, 180, 181, 42, 182, 183, 184, 185, 186, 187, 81, 188, 189, 190, 46, 191, 192, 193, 88, 89, 194, 195, 196, 87, 197, 198, 199, 200, 201, 202, 203, 204, 50, 205, 206, 207, 208, 209, 210, 211, 54, 212, 102, 213, 214, 215, 220, 221, 222, 223, 224, 225, 226, 227, 228, 229, 230, 231, 100, 232, 233, 234, 235, 236, 237, 238, 239, 101, 961, 962, 963, 964, 965, 971, 972, 973, 974, 975, 976, 977, 978, 979, 980, 981, 982, 983, 984, 985, 986, 987, 988, 989, 990, 997, 998, 999, 1000, 991, 992, 993, 994, 995, 996, 1001, 1002, 1003, 1004, 1005, 1006, 1007, 1008, 1009, 1010, 1011, 1012, 1013, 1022, 1023, 1024, 1025, 1014, 1015, 1016, 1017, 1018, 1019, 1020, 1021] (by decide +kernel) (by decide +kernel)) (goodIn_sub (fun _ h => List.mem_append_left _ (List.mem_append_left _ (List.mem_append_right _ h))) (by decide +kernel))) (goodIn_sub (fun _ h => List.mem_append_left _ (List.mem_append_right _ h)) (by decide +kernel))
set_option maxRecDepth 20000 in
theorem gL_law_L_setFactor : GoodIn wsL_law (va_wsS RL 106 yL_setFactor wsL_setFactor) := goodIn_app (goodIn_of _ (by decide +kernel)) ggL_law_L_setFactor
set_option maxRecDepth 20000 in
theorem ggL_law_X10_setFactor : GoodIn wsL_law wsX10_setFactor := goodIn_r _ [334, 335, 336, 337, 250, 251, 5, 252, 253, 254, 255, 256, 257, 258, 259, 260, 261, 107, 262, 263, 264, 265, 266, 108, 267, 268, 269, 270, 271, 272, 273, 274, 966, 967, 968, 969, 970] (by decide +kernel) (by decide +kernel)
set_option maxRecDepth 20000 in
theorem gL_law_X10_setFactor : GoodIn wsL_law (wsV RL 108 RX10 yX10_setFactor wsX10_setFactor) := goodIn_app (goodIn_of _ (by decide +kernel)) ggL_law_X10_setFactor
set_option maxRecDepth 20000 in
theorem ggL_law_L_setMeter : GoodIn wsL_law wsL_setMeter := goodIn_ca (goodIn_r _ [340, 121, 341, 342, 343, 2, 344, 345, 17, 300, 346, 134, 135, 136, 137, 138, 139, 140, 141, 142, 20, 19, 18, 143, 144, 145, 146, 147, 148, 149, 150, 16, 151, 152, 153, 27, 28, 29, 30, 31, 154, 155, 35, 39, 156, 157, 158, 43, 47, 51, 55, 56, 57, 159, 160, 161, 26, 162, 63, 163, 62, 65, 164, 165, 166, 167, 34, 168, 69, 70, 72, 169, 170, 171, 172, 73, 173, 174, 175, 38, 176, 177, 178, 77, 179, 180, 181, 42, 182, 183, 184, 185, 186, 187, 81, 188, 189, 190, 46, 191, 192, 193, 88, 89, 194, 195, 196, 87, 197, 198, 199, 200, 201, 202, 203, 204, 50, 205, 206, 207, 208, 209, 210, 211, 54, 212, 102, 213, 214, 215, 220, 221, 222, 223, 224, 225, 226, 227, 228, 229, 230, 231, 100, 232, 233, 234, 235, 236, 237, 238, 239, 101, 961, 962, 963, 964, 965, 971, 972, 973, 974, 975, 976, 977, 978, 979, 980, 981, 982, 983, 984, 985, 986, 987, 988, 989, 990, 997, 998, 999, 1000, 991, 992, 993, 994, 995, 996, 1001, 1002, 1003, 1004, 1005, 1006, 1007, 1008, 1009, 1010, 1011, 1012, 1013, 1022, 1023, 1024, 1025, 1014, 1015, 1016, 1017, 1018, 1019, 1020, 1021] (by decide +kernel) (by decide +kernel)) (goodIn_sub (fun _ h => List.mem_append_left _ (List.mem_append_right _ h)) (by decide +kernel))
set_option maxRecDepth 20000 in
theorem gL_law_L_setMeter : GoodIn wsL_law (va_wsS RL 109 yL_setMeter wsL_setMeter) := goodIn_app (goodIn_of _ (by decide +kernel)) ggL_law_L_setMeter
set_option maxRecDepth 20000 in
theorem ggL_law_X10_setMeter : GoodIn wsL_law wsX10_setMeter := goodIn_r _ [350, 351, 250, 251, 5, 252, 258, 259, 260, 261, 107, 262, 263, 264, 265, 257, 266, 108, 267, 268, 269, 270, 271, 272, 273, 274, 253, 254, 255, 256, 966, 967, 968, 969, 970] (by decide +kernel) (by decide +kernel)
set_option maxRecDepth 20000 in
theorem gL_law_X10_setMeter : GoodIn wsL_law (wsV RL 111 RX10 yX10_setMeter wsX10_setMeter) := goodIn_app (goodIn_of _ (by decide +kernel)) ggL_law_X10_setMeter
set_option maxRecDepth 20000 in
theorem ggL_law_L_setCutoff : GoodIn wsL_law wsL_setCutoff := goodIn_ca (goodIn_r _ [354, 121, 355, 356, 357, 2, 358, 345, 17, 359, 360, 361, 134, 135, 136, 137, 138, 139, 140, 141, 142, 20, 19, 18, 143, 144, 145, 146, 147, 148, 149, 150, 16, 151, 152, 153, 27, 28, 29, 30, 31, 154, 155, 35, 39, 156, 157, 158, 43, 47, 51, 55, 56, 57, 159, 160, 161, 26, 162, 63, 163, 62, 65, 164, 165, 166, 167, 34, 168, 69, 70, 72, 169, 170, 171, 172, 73, 173, 174, 175, 38, 176, 177, 178, 77, 179, 180, 181, 42, 182, 183, 184, 185, 186, 187, 81, 188, 189, 190, 46, 191, 192, 193, 88, 89, 194, 195, 196, 87, 197, 198, 199, 200, 201, 202, 203, 204, 50, 205, 206, 207, 208, 209, 210, 211, 54, 212, 102, 213, 214, 215, 220, 221, 222, 223, 224, 225, 226, 227, 228, 229, 230, 231, 100, 232, 233, 234, 235, 236, 237, 238, 239, 101, 961, 962, 963, 964, 965, 971, 972, 973, 974, 975, 976, 977, 978, 979, 980, 981, 982, 983, 984, 985, 986, 987, 988, 989, 990, 1001, 1002, 1003, 991, 992, 993, 994, 995, 996, 997, 998, 999, 1000, 1004, 1005, 1006, 1007, 1008, 1009, 1010, 1011, 1012, 1013, 1022, 1023, 1024, 1025, 1014, 1015, 1016, 1017, 1018, 1019, 1020, 1021] (by decide +kernel) (by decide +kernel)) (goodIn_sub (fun _ h => List.mem_append_left _ (List.mem_append_right _ h)) (by decide +kernel))
set_option maxRecDepth 20000 in
theorem gL_law_L_setCutoff : GoodIn wsL_law (va_wsS RL 112 yL_setCutoff wsL_setCutoff) := goodIn_app (goodIn_of _ (by decide +kernel)) ggL_law_L_setCutoff
set_option maxRecDepth 20000 in
theorem ggL_law_X10_setCutoff : GoodIn wsL_law wsX10_setCutoff := goodIn_r _ [365, 351, 107, 250, 251, 5, 252, 253, 254, 255, 256, 257, 258, 259, 260, 261, 262, 263, 264, 265, 266, 108, 267, 268, 269, 270, 271, 272, 273, 274, 966, 967, 968, 969, 970] (by decide +kernel) (by decide +kernel)
set_option maxRecDepth 20000 in
theorem gL_law_X10_setCutoff : GoodIn wsL_law (wsV RL 114 RX10 yX10_setCutoff wsX10_setCutoff) := goodIn_app (goodIn_of _ (by decide +kernel)) ggL_law_X10_setCutoff
set_option maxRecDepth 20000 in
theorem ggL_law_L_setContractHour : GoodIn wsL_law wsL_setContractHour := goodIn_ca (goodIn_r _ [368, 121, 369, 370, 371, 2, 372, 373, 17, 374, 134, 135, 136, 137, 138, 139, 140, 141, 142, 20, 19, 18, 143, 144, 145, 146, 147, 148, 149, 150, 16, 151, 152, 153, 27, 28, 29, 30, 31, 154, 155, 35, 39, 156, 157, 158, 43, 47, 51, 55, 56, 57, 159, 160, 161, 26, 162, 63, 163, 62, 65, 164, 165, 166, 167, 34, 168, 69, 70, 72, 169, 170, 171, 172, 73, 173, 174, 175, 38, 176, 177, 178, 77, 179, 180, 181, 42, 182, 183, 184, 185, 186, 187, 81, 188, 189, 190, 46, 191, 192, 193, 88, 89, 194, 195, 196, 87, 197, 198, 199, 200, 201, 202, 203, 204, 50, 205, 206, 207, 208, 209, 210, 211, 54, 212, 102, 213, 214, 215, 220, 221, 222, 223, 224, 225, 226, 227, 228, 229, 230, 231, 100, 232, 233, 234, 235, 236, 237, 238, 239, 101, 961, 962, 963, 964, 965, 971, 972, 973, 974, 975, 976, 977, 978, 979, 980, 981, 982, 983, 984, 985, 986, 987, 988, 989, 990, 991, 992, 993, 994, 995, 996, 997, 998, 999, 1000, 1001, 1002, 1003, 1004, 1005, 1006, 1007, 1008, 1009, 1010, 1011, 1012, 1013, 1022, 1023, 1024, 1025, 1014, 1015, 1016, 1017, 1018, 1019, 1020, 1021] (by decide +kernel) (by decide +kernel)) (goodIn_sub (fun _ h => List.mem_append_left _ (List.mem_append_right _ h)) (by decide +kernel))
set_option maxRecDepth 20000 in
theorem gL_law_L_setContractHour : GoodIn wsL_law (va_wsS RL 115 yL_setContractHour wsL_setContractHour) := goodIn_app (goodIn_of _ (by decide +kernel)) ggL_law_L_setContractHour
set_option maxRecDepth 20000 in
theorem ggL_law_X10_setContractHour : GoodIn wsL_law wsX10_setContractHour := goodIn_r _ [378, 379, 250, 251, 5, 252, 258, 259, 260, 261, 107, 262, 263, 264, 265, 257, 266, 108, 267, 268, 269, 270, 271, 272, 273, 274, 253, 254, 255, 256, 966, 967, 968, 969, 970] (by decide +kernel) (by decide +kernel)
set_option maxRecDepth 20000 in
theorem gL_law_X10_setContractHour : GoodIn wsL_law (wsV RL 117 RX10 yX10_setContractHour wsX10_setContractHour) := goodIn_app (goodIn_of _ (by decide +kernel)) ggL_law_X10_setContractHour
set_option maxRecDepth 20000 in
theorem ggL_law_L_setRaw : GoodIn wsL_law wsL_setRaw := goodIn_ca (goodIn_ca (goodIn_r _ [382, 120, 121, 383, 384, 385, 2, 386, 387, 17, 388, 129, 130, 131, 132, 133, 134, 135, 136, 137, 138, 139, 140, 141, 142, 20, 19, 18, 143, 144, 145, 146, 147, 148, 149, 150, 16, 151, 152, 153, 27, 28, 29, 30, 31, 154, 155, 35, 39, 156, 157, 158, 43, 47, 51, 55, 56, 57, 159, 160, 161, 26, 162, 63, 163, 62, 65, 164, 165, 166, 167, 34, 168, 69, 70, 72, 169, 170, 171, 172, 73, 173, 174, 175, 38, 176, 177, 178, 77, 179, 180, 181, 42, 182, 183, 184, 185, 186, 187, 81, 188, 189, 190, 46, 191, 192, 193, 88, 89, 194, 195, 196, 87, 197, 198, 199, 200, 201, 202, 203, 204, 50, 205, 206, 207, 208, 209, 210, 211, 54, 212, 102, 213, 214, 215, 216, 217, 218, 219, 389, 390, 391, 392, 64, 393, 394, 395, 396, 397, 961, 962, 963, 964, 965, 991, 992, 993, 994, 995, 996, 971, 972, 973, 974, 975, 976, 977, 978, 979, 980, 981, 982, 983, 984, 985, 986, 987, 988, 989, 990, 997, 998, 999, 1000, 1001, 1002, 1003, 1004, 1005, 1006, 1007, 1008, 1009, 1010, 1011, 1012, 1013, 1022, 1023, 1024, 1025, 1014, 1015, 1016, 1017, 1018, 1019, 1020, 1021] (by decide +kernel) (by decide +kernel)) (goodIn_sub (fun _ h => List.mem_append_left _ (List.mem_append_left _ (List.mem_append_right _ h))) (by decide +kernel))) (goodIn_sub (fun _ h => List.mem_append_left _ (List.mem_append_right _ h)) (by decide +kernel))
set_option maxRecDepth 20000 in
theorem gL_law_L_setRaw : GoodIn wsL_law (va_wsS RL 118 yL_setRaw wsL_setRaw) := goodIn_app (goodIn_of _ (by decide +kernel)) ggL_law_L_setRaw
set_option maxRecDepth 20000 in
theorem ggL_law_X10_setRaw : GoodIn wsL_law wsX10_setRaw := goodIn_r _ [401, 402, 107, 246, 247, 5, 248, 249, 250, 251, 252, 253, 254, 255, 256, 257, 262, 263, 264, 265, 266, 108, 403, 404, 405, 406, 115, 114, 407, 408, 409, 410, 966, 967, 968, 969, 970] (by decide +kernel) (by decide +kernel)
set_option maxRecDepth 20000 in
theorem gL_law_X10_setRaw : GoodIn wsL_law (wsV RL 120 RX10 yX10_setRaw wsX10_setRaw) := goodIn_app (goodIn_of _ (by decide +kernel)) ggL_law_X10_setRaw
set_option maxRecDepth 20000 in
theorem ggL_law_L_run : GoodIn wsL_law wsL_run := goodIn_ca (goodIn_r _ [413, 121, 414, 415, 416, 2, 417, 313, 17, 418, 134, 135, 136, 137, 138, 139, 140, 141, 142, 20, 19, 18, 143, 144, 145, 146, 147, 148, 149, 150, 16, 151, 152, 153, 27, 28, 29, 30, 31, 154, 155, 35, 39, 156, 157, 158, 43, 47, 51, 55, 56, 57, 159, 160, 161, 26, 162, 63, 163, 62, 65, 164, 165, 166, 167, 34, 168, 69, 70, 72, 169, 170, 171, 172, 73, 173, 174, 175, 38, 176, 177, 178, 77, 179, 180, 181, 42, 182, 183, 184, 185, 186, 187, 81, 188, 189, 190, 46, 191, 192, 193, 88, 89, 194, 195, 196, 87, 197, 198, 199, 200, 201, 202, 203, 204, 50, 205, 206, 207, 208, 209, 210, 211, 54, 212, 102, 213, 214, 215, 419, 420, 421, 422, 423, 424, 425, 426, 427, 428, 429, 430, 217, 218, 219, 431, 432, 433, 434, 224, 225, 226, 227, 228, 229, 230, 231, 100, 232, 233, 234, 235, 236, 237, 238, 239, 101, 435, 436, 437, 438, 439, 390, 391, 392, 64, 393, 394, 395, 396, 397, 440, 441, 442, 443, 444, 445, 446, 447, 448, 449, 450, 451, 452, 453, 454, 455, 456, 457, 458, 459, 460, 461, 462, 463, 464, 465, 466, 467, 468, 469, 470, 471, 472, 473, 474, 475, 476, 477, 478, 479, 480, 481, 482, 483, 484, 485, 486, 487, 488, 489, 490, 491, 492, 493, 494, 495, 496, 497, 498, 499, 500, 501, 502, 503, 504, 505, 506, 507, 508, 509, 510, 511, 512, 513, 514, 515, 516, 517, 518, 519, 520, 521, 522, 523, 524, 525, 526, 527, 528, 529, 530, 531, 532, 533, 534, 535, 536, 537, 538, 539, 540, 541, 542, 543, 544, 545, 546, 547, 548, 549, 550, 551, 552, 553, 554, 555, 556, 557, 558, 559, 560, 561, 562, 563, 564, 565, 566, 567, 568, 569, 570, 571, 572, 573, 574, 575, 576, 577, 578, 579, 580, 581, 582, 583, 584, 961, 962, 963, 964, 965, 971, 972, 973, 974, 975, 976, 977, 978, 979, 980, 981, 982, 983, 984, 985, 986, 987, 988, 989, 990, 991, 992, 993, 994, 995, 996, 997, 998, 999, 1000, 1001, 1002, 1003, 1004, 1005, 1006, 1007, 1008, 1009, 1010, 1011, 1012, 1013, 1022, 1023, 1024, 1025, 1014, 1015, 1016, 1017, 1018, 1019, 1020, 1021] (by decide +kernel) (by decide +kernel)) (goodIn_sub (fun _ h => List.mem_append_left _ (List.mem_append_right _ h)) (by decide +kernel))
set_option maxRecDepth 20000 in
theorem gL_law_L_run : GoodIn wsL_law (va_wsS RL 121 yL_run wsL_run) := goodIn_app (goodIn_of _ (by decide +kernel)) ggL_law_L_run
set_option maxRecDepth 20000 in
theorem ggL_law_X10_run : GoodIn wsL_law wsX10_run := goodIn_r _ [588, 320, 107, 589, 250, 251, 5, 252, 253, 254, 255, 256, 257, 262, 263, 264, 265, 266, 108, 590, 591, 592, 593, 594, 595, 596, 597, 598, 267, 268, 269, 270, 271, 272, 273, 274, 403, 404, 405, 406, 115, 114, 407, 408, 409, 410, 599, 600, 601, 602, 603, 604, 605, 606, 607, 608, 609, 244, 610, 611, 612, 613, 614, 112, 615, 616, 617, 618, 619, 620, 621, 622, 623, 624, 625, 626, 627, 628, 109, 629, 630, 631, 632, 633, 634, 635, 636, 637, 638, 639, 245, 640, 641, 642, 643, 644, 645, 646, 647, 648, 649, 650, 651, 652, 653, 654, 655, 656, 657, 658, 659, 660, 661, 966, 967, 968, 969, 970] (by decide +kernel) (by decide +kernel)
set_option maxRecDepth 20000 in
theorem gL_law_X10_run : GoodIn wsL_law (wsV RL 123 RX10 yX10_run wsX10_run) := goodIn_app (goodIn_of _ (by decide +kernel)) ggL_law_X10_run
set_option maxRecDepth 20000 in
theorem ggL_law_L_openBatch : GoodIn wsL_law wsL_openBatch := goodIn_ca (goodIn_ca (goodIn_r _ [664, 121, 665, 666, 667, 668, 2, 669, 670, 17, 671, 672, 673, 134, 135, 136, 137, 138, 674, 675, 676, 677, 678, 139, 140, 141, 142, 20, 19, 18, 143, 144, 145, 146, 147, 148, 149, 150, 16, 151, 152, 153, 27, 28, 29, 30, 31, 154, 155, 35, 39, 156, 157, 158, 43, 47, 51, 55, 56, 57, 159, 160, 161, 26, 162, 63, 163, 62, 65, 164, 165, 166, 167, 34, 168, 69, 70, 72, 169, 170, 171, 172, 73, 173, 174, 175, 38, 176, 177, 178, 77, 179, 180, 181, 42, 182, 183, 184, 185, 186, 187, 81, 188, 189, 190, 46, 191, 192, 193, 88, 89, 194, 195, 196, 87, 197, 198, 199, 200, 201, 202, 203, 204, 50, 205, 206, 207, 208, 209, 210, 211, 54, 212, 102, 213, 214, 215, 679, 680, 681, 682, 516, 517, 518, 519, 961, 962, 963, 964, 965, 971, 972, 973, 974, 975, 976, 977, 978, 979, 980, 981, 982, 983, 984, 985, 986, 987, 988, 989, 990, 1004, 1005, 1006, 1007, 1008, 1009, 991, 992, 993, 994, 995, 996, 997, 998, 999, 1000, 1001, 1002, 1003, 1010, 1011, 1012, 1013, 1022, 1023, 1024, 1025, 1014, 1015, 1016, 1017, 1018, 1019, 1020, 1021] (by decide +kernel) (by decide +kernel)) (goodIn_sub (fun _ h => List.mem_append_left _ (List.mem_append_right _ h)) (by decide +kernel))) (goodIn_sub (fun _ h => List.mem_append_right _ h) (by decide +kernel))
set_option maxRecDepth 20000 in
theorem gL_law_L_openBatch : GoodIn wsL_law (va_wsS RL 124 yL_openBatch wsL_openBatch) := goodIn_app (goodIn_of _ (by decide +kernel)) ggL_law_L_openBatch
set_option maxRecDepth 20000 in
theorem ggL_law_X10_openBatch : GoodIn wsL_law wsX10_openBatch := goodIn_r _ [686, 687, 107, 635, 250, 251, 5, 252, 253, 254, 255, 256, 257, 262, 263, 264, 265, 266, 108, 966, 967, 968, 969, 970] (by decide +kernel) (by decide +kernel)
set_option maxRecDepth 20000 in
theorem gL_law_X10_openBatch : GoodIn wsL_law (wsV RL 126 RX10 yX10_openBatch wsX10_openBatch) := goodIn_app (goodIn_of _ (by decide +kernel)) ggL_law_X10_openBatch
set_option maxRecDepth 20000 in
theorem ggL_law_L_closeBatch : GoodIn wsL_law wsL_closeBatch := goodIn_ca (goodIn_r _ [690, 665, 691, 692, 693, 2, 694, 17, 671, 672, 695, 674, 675, 676, 677, 678, 139, 140, 141, 142, 20, 19, 18, 143, 144, 145, 146, 147, 148, 149, 150, 16, 151, 152, 153, 27, 28, 29, 30, 31, 154, 155, 35, 39, 156, 157, 158, 43, 47, 51, 55, 56, 57, 159, 160, 161, 26, 162, 63, 163, 62, 65, 164, 165, 166, 167, 34, 168, 69, 70, 72, 169, 170, 171, 172, 73, 173, 174, 175, 38, 176, 177, 178, 77, 179, 180, 181, 42, 182, 183, 184, 185, 186, 187, 81, 188, 189, 190, 46, 191, 192, 193, 88, 89, 194, 195, 196, 87, 197, 198, 199, 200, 201, 202, 203, 204, 50, 205, 206, 207, 208, 209, 210, 211, 54, 212, 102, 213, 214, 215, 696, 513, 514, 515, 961, 962, 963, 964, 965, 971, 972, 973, 974, 975, 976, 977, 978, 979, 980, 981, 982, 983, 984, 985, 986, 987, 988, 989, 990, 1004, 1005, 1006, 1007, 1008, 1009, 991, 992, 993, 994, 995, 996, 997, 998, 999, 1000, 1001, 1002, 1003, 1010, 1011, 1012, 1013, 1022, 1023, 1024, 1025, 1014, 1015, 1016, 1017, 1018, 1019, 1020, 1021] (by decide +kernel) (by decide +kernel)) (goodIn_sub (fun _ h => List.mem_append_right _ h) (by decide +kernel))
set_option maxRecDepth 20000 in
theorem gL_law_L_closeBatch : GoodIn wsL_law (va_wsS RL 127 yL_closeBatch wsL_closeBatch) := goodIn_app (goodIn_of _ (by decide +kernel)) ggL_law_L_closeBatch
set_option maxRecDepth 20000 in
theorem ggL_law_X10_closeBatch : GoodIn wsL_law wsX10_closeBatch := goodIn_r _ [700, 107, 253, 254, 255, 5, 256, 257, 262, 263, 264, 265, 266, 108, 966, 967, 968, 969, 970] (by decide +kernel) (by decide +kernel)
set_option maxRecDepth 20000 in
theorem gL_law_X10_closeBatch : GoodIn wsL_law (wsV RL 130 RX10 yX10_closeBatch wsX10_closeBatch) := goodIn_app (goodIn_of _ (by decide +kernel)) ggL_law_X10_closeBatch
set_option maxRecDepth 20000 in
theorem ggL_law_L_transmitter : GoodIn wsL_law wsL_transmitter := goodIn_ca (goodIn_ca (goodIn_r _ [703, 120, 121, 704, 705, 706, 2, 707, 708, 17, 709, 388, 129, 130, 131, 132, 133, 134, 135, 136, 137, 138, 216, 217, 218, 16, 219, 27, 28, 29, 30, 389, 390, 391, 26, 392, 64, 63, 62, 393, 394, 395, 396, 397, 710, 432, 433, 434, 961, 962, 963, 964, 965, 991, 992, 993, 994, 995, 996, 971, 972, 973, 974, 975, 976, 977, 978, 979, 980, 981, 982, 983, 984, 985, 986, 987, 988, 989, 990] (by decide +kernel) (by decide +kernel)) (goodIn_sub (fun _ h => List.mem_append_left _ (List.mem_append_left _ (List.mem_append_right _ h))) (by decide +kernel))) (goodIn_sub (fun _ h => List.mem_append_left _ (List.mem_append_right _ h)) (by decide +kernel))
set_option maxRecDepth 20000 in
theorem gL_law_L_transmitter : GoodIn wsL_law (va_wsS RL 131 yL_transmitter wsL_transmitter) := goodIn_app (goodIn_of _ (by decide +kernel)) ggL_law_L_transmitter
set_option maxRecDepth 20000 in
theorem ggL_law_X10_transmitter : GoodIn wsL_law wsX10_transmitter := goodIn_r _ [714, 249, 107, 246, 247, 5, 248, 250, 251, 252, 253, 254, 255, 256, 257, 403, 404, 405, 406, 115, 114, 407, 408, 409, 410, 594, 595, 596, 597, 598, 715, 716, 717, 718, 966, 967, 968, 969, 970] (by decide +kernel) (by decide +kernel)
set_option maxRecDepth 20000 in
theorem gL_law_X10_transmitter : GoodIn wsL_law (wsV RL 133 RX10 yX10_transmitter wsX10_transmitter) := goodIn_app (goodIn_of _ (by decide +kernel)) ggL_law_X10_transmitter
set_option maxRecDepth 20000 in
theorem ggL_law_X9_range : GoodIn wsL_law wsX9_range := goodIn_r _ [722, 17, 723, 961, 962, 963, 964, 965, 971, 972, 973, 974, 975, 976, 977, 978, 979, 980, 981, 982, 983, 984, 985, 986, 987, 988, 989, 990] (by decide +kernel) (by decide +kernel)
set_option maxRecDepth 20000 in
theorem gL_law_X9_range : GoodIn wsL_law (wsV RL 134 RX9 yX9_range wsX9_range) := goodIn_app (goodIn_of _ (by decide +kernel)) ggL_law_X9_range
set_option maxRecDepth 20000 in
theorem ggL_law_X10_range : GoodIn wsL_law wsX10_range := goodIn_r _ [727, 107, 715, 716, 717, 5, 718, 257, 966, 967, 968, 969, 970] (by decide +kernel) (by decide +kernel)
set_option maxRecDepth 20000 in
theorem gL_law_X10_range : GoodIn wsL_law (wsV RL 137 RX10 yX10_range wsX10_range) := goodIn_app (goodIn_of _ (by decide +kernel)) ggL_law_X10_range
set_option maxRecDepth 20000 in
theorem ggL_law_X9_differential : GoodIn wsL_law wsX9_differential := goodIn_r _ [731, 17, 732, 961, 962, 963, 964, 965, 971, 972, 973, 974, 975, 976, 977, 978, 979, 980, 981, 982, 983, 984, 985, 986, 987, 988, 989, 990] (by decide +kernel) (by decide +kernel)
set_option maxRecDepth 20000 in
theorem gL_law_X9_differential : GoodIn wsL_law (wsV RL 138 RX9 yX9_differential wsX9_differential) := goodIn_app (goodIn_of _ (by decide +kernel)) ggL_law_X9_differential
set_option maxRecDepth 20000 in
theorem ggL_law_X10_differential : GoodIn wsL_law wsX10_differential := goodIn_r _ [736, 107, 715, 716, 717, 5, 718, 257, 966, 967, 968, 969, 970] (by decide +kernel) (by decide +kernel)
set_option maxRecDepth 20000 in
theorem gL_law_X10_differential : GoodIn wsL_law (wsV RL 141 RX10 yX10_differential wsX10_differential) := goodIn_app (goodIn_of _ (by decide +kernel)) ggL_law_X10_differential
set_option maxRecDepth 20000 in
theorem ggL_law_X9_density : GoodIn wsL_law wsX9_density := goodIn_r _ [740, 17, 741, 462, 463, 16, 464, 35, 29, 423, 30, 465, 466, 467, 34, 468, 69, 72, 469, 455, 146, 456, 470, 471, 472, 473, 396, 474, 475, 476, 477, 478, 479, 480, 961, 962, 963, 964, 965, 971, 972, 973, 974, 975, 976, 977, 978, 979, 980, 981, 982, 983, 984, 985, 986, 987, 988, 989, 990, 991, 992, 993, 994, 995, 996, 997, 998, 999, 1000] (by decide +kernel) (by decide +kernel)
set_option maxRecDepth 20000 in
theorem gL_law_X9_density : GoodIn wsL_law (wsV RL 142 RX9 yX9_density wsX9_density) := goodIn_app (goodIn_of _ (by decide +kernel)) ggL_law_X9_density
set_option maxRecDepth 20000 in
theorem ggL_law_X10_density : GoodIn wsL_law wsX10_density := goodIn_r _ [745, 257, 746, 747, 748, 5, 749, 107, 615, 616, 617, 618, 619, 620, 621, 622, 623, 624, 408, 409, 410, 966, 967, 968, 969, 970] (by decide +kernel) (by decide +kernel)
set_option maxRecDepth 20000 in
theorem gL_law_X10_density : GoodIn wsL_law (wsV RL 145 RX10 yX10_density wsX10_density) := goodIn_app (goodIn_of _ (by decide +kernel)) ggL_law_X10_density
set_option maxRecDepth 20000 in
theorem ggL_law_X9_flow : GoodIn wsL_law wsX9_flow := goodIn_r _ [753, 17, 754, 961, 962, 963, 964, 965, 971, 972, 973, 974, 975, 976, 977, 978, 979, 980, 981, 982, 983, 984, 985, 986, 987, 988, 989, 990] (by decide +kernel) (by decide +kernel)
set_option maxRecDepth 20000 in
theorem gL_law_X9_flow : GoodIn wsL_law (wsV RL 146 RX9 yX9_flow wsX9_flow) := goodIn_app (goodIn_of _ (by decide +kernel)) ggL_law_X9_flow
set_option maxRecDepth 20000 in
theorem ggL_law_X10_flow : GoodIn wsL_law wsX10_flow := goodIn_r _ [758, 257, 107, 966, 967, 968, 969, 970] (by decide +kernel) (by decide +kernel)
set_option maxRecDepth 20000 in
theorem gL_law_X10_flow : GoodIn wsL_law (wsV RL 149 RX10 yX10_flow wsX10_flow) := goodIn_app (goodIn_of _ (by decide +kernel)) ggL_law_X10_flow
set_option maxRecDepth 20000 in
theorem ggL_law_X9_isFlowing : GoodIn wsL_law wsX9_isFlowing := goodIn_r _ [762, 17, 359, 763, 961, 962, 963, 964, 965, 971, 972, 973, 974, 975, 976, 977, 978, 979, 980, 981, 982, 983, 984, 985, 986, 987, 988, 989, 990, 1001, 1002, 1003] (by decide +kernel) (by decide +kernel)
set_option maxRecDepth 20000 in
theorem gL_law_X9_isFlowing : GoodIn wsL_law (wsV RL 150 RX9 yX9_isFlowing wsX9_isFlowing) := goodIn_app (goodIn_of _ (by decide +kernel)) ggL_law_X9_isFlowing
set_option maxRecDepth 20000 in
theorem ggL_law_X10_isFlowing : GoodIn wsL_law wsX10_isFlowing := goodIn_r _ [767, 257, 107, 966, 967, 968, 969, 970] (by decide +kernel) (by decide +kernel)
set_option maxRecDepth 20000 in
theorem gL_law_X10_isFlowing : GoodIn wsL_law (wsV RL 154 RX10 yX10_isFlowing wsX10_isFlowing) := goodIn_app (goodIn_of _ (by decide +kernel)) ggL_law_X10_isFlowing
set_option maxRecDepth 20000 in
theorem ggL_law_L_total : GoodIn wsL_law wsL_total := goodIn_ca (goodIn_r _ [770, 121, 771, 772, 773, 2, 774, 708, 17, 134, 135, 136, 137, 138, 775, 776, 777, 16, 778, 157, 158, 43, 506, 47, 524, 961, 962, 963, 964, 965, 971, 972, 973, 974, 975, 976, 977, 978, 979, 980, 981, 982, 983, 984, 985, 986, 987, 988, 989, 990, 1004, 1005, 1006, 1007, 1008, 1009, 1010, 1011, 1012, 1013] (by decide +kernel) (by decide +kernel)) (goodIn_sub (fun _ h => List.mem_append_left _ (List.mem_append_right _ h)) (by decide +kernel))
set_option maxRecDepth 20000 in
theorem gL_law_L_total : GoodIn wsL_law (va_wsS RL 155 yL_total wsL_total) := goodIn_app (goodIn_of _ (by decide +kernel)) ggL_law_L_total
set_option maxRecDepth 20000 in
theorem ggL_law_X10_total : GoodIn wsL_law wsX10_total := goodIn_r _ [782, 249, 257, 250, 251, 5, 252, 253, 254, 255, 256, 783, 784, 785, 786, 107, 966, 967, 968, 969, 970] (by decide +kernel) (by decide +kernel)
set_option maxRecDepth 20000 in
theorem gL_law_X10_total : GoodIn wsL_law (wsV RL 157 RX10 yX10_total wsX10_total) := goodIn_app (goodIn_of _ (by decide +kernel)) ggL_law_X10_total
set_option maxRecDepth 20000 in
theorem ggL_law_X9_valve : GoodIn wsL_law wsX9_valve := goodIn_r _ [790, 17, 671, 791, 961, 962, 963, 964, 965, 971, 972, 973, 974, 975, 976, 977, 978, 979, 980, 981, 982, 983, 984, 985, 986, 987, 988, 989, 990, 1004, 1005, 1006, 1007, 1008, 1009] (by decide +kernel) (by decide +kernel)
set_option maxRecDepth 20000 in
theorem gL_law_X9_valve : GoodIn wsL_law (wsV RL 158 RX9 yX9_valve wsX9_valve) := goodIn_app (goodIn_of _ (by decide +kernel)) ggL_law_X9_valve
set_option maxRecDepth 20000 in
theorem ggL_law_X10_valve : GoodIn wsL_law wsX10_valve := goodIn_r _ [795, 107, 715, 716, 717, 5, 718, 257, 966, 967, 968, 969, 970] (by decide +kernel) (by decide +kernel)
set_option maxRecDepth 20000 in
theorem gL_law_X10_valve : GoodIn wsL_law (wsV RL 161 RX10 yX10_valve wsX10_valve) := goodIn_app (goodIn_of _ (by decide +kernel)) ggL_law_X10_valve
set_option maxRecDepth 20000 in
theorem ggL_law_L_flowFor : GoodIn wsL_law wsL_flowFor := goodIn_ca (goodIn_r _ [798, 121, 799, 800, 801, 2, 802, 127, 803, 804, 17, 300, 134, 135, 136, 137, 138, 805, 466, 467, 34, 468, 69, 72, 469, 455, 146, 456, 470, 471, 472, 473, 396, 474, 475, 476, 477, 478, 479, 480, 806, 482, 483, 484, 485, 70, 486, 487, 73, 488, 489, 490, 491, 492, 493, 494, 495, 395, 397, 961, 962, 963, 964, 965, 971, 972, 973, 974, 975, 976, 977, 978, 979, 980, 981, 982, 983, 984, 985, 986, 987, 988, 989, 990, 997, 998, 999, 1000] (by decide +kernel) (by decide +kernel)) (goodIn_sub (fun _ h => List.mem_append_left _ (List.mem_append_right _ h)) (by decide +kernel))
set_option maxRecDepth 20000 in
theorem gL_law_L_flowFor : GoodIn wsL_law (va_wsS RL 162 yL_flowFor wsL_flowFor) := goodIn_app (goodIn_of _ (by decide +kernel)) ggL_law_L_flowFor
set_option maxRecDepth 20000 in
theorem ggL_law_X10_flowFor : GoodIn wsL_law wsX10_flowFor := goodIn_r _ [810, 245, 115, 643, 257, 250, 251, 5, 252, 253, 254, 255, 256, 625, 626, 627, 628, 107, 244, 112, 109, 629, 630, 615, 616, 617, 618, 619, 620, 621, 622, 623, 624, 408, 409, 410, 631, 632, 633, 634, 635, 636, 637, 638, 639, 640, 641, 642, 966, 967, 968, 969, 970] (by decide +kernel) (by decide +kernel)
set_option maxRecDepth 20000 in
theorem gL_law_X10_flowFor : GoodIn wsL_law (wsV RL 165 RX10 yX10_flowFor wsX10_flowFor) := goodIn_app (goodIn_of _ (by decide +kernel)) ggL_law_X10_flowFor
set_option maxRecDepth 20000 in
theorem ggL_law_L_differentialFor : GoodIn wsL_law wsL_differentialFor := goodIn_ca (goodIn_r _ [813, 121, 814, 815, 816, 2, 817, 670, 17, 818, 709, 300, 134, 135, 136, 137, 138, 741, 462, 463, 16, 464, 35, 29, 423, 30, 465, 466, 467, 34, 468, 69, 72, 469, 455, 146, 456, 470, 471, 472, 473, 396, 474, 475, 476, 477, 478, 479, 480, 806, 482, 483, 484, 485, 70, 486, 487, 73, 488, 489, 490, 491, 492, 493, 494, 495, 395, 397, 961, 962, 963, 964, 965, 971, 972, 973, 974, 975, 976, 977, 978, 979, 980, 981, 982, 983, 984, 985, 986, 987, 988, 989, 990, 991, 992, 993, 994, 995, 996, 997, 998, 999, 1000] (by decide +kernel) (by decide +kernel)) (goodIn_sub (fun _ h => List.mem_append_left _ (List.mem_append_right _ h)) (by decide +kernel))
set_option maxRecDepth 20000 in
theorem gL_law_L_differentialFor : GoodIn wsL_law (va_wsS RL 168 yL_differentialFor wsL_differentialFor) := goodIn_app (goodIn_of _ (by decide +kernel)) ggL_law_L_differentialFor
set_option maxRecDepth 20000 in
theorem ggL_law_X10_differentialFor : GoodIn wsL_law wsX10_differentialFor := goodIn_r _ [822, 687, 107, 823, 250, 251, 5, 252, 253, 254, 255, 256, 257, 625, 626, 627, 628, 244, 112, 109, 629, 630, 615, 616, 617, 618, 619, 620, 621, 622, 623, 624, 408, 409, 410, 631, 632, 633, 634, 635, 636, 637, 638, 639, 245, 640, 641, 642, 643, 715, 716, 717, 718, 966, 967, 968, 969, 970] (by decide +kernel) (by decide +kernel)
set_option maxRecDepth 20000 in
theorem gL_law_X10_differentialFor : GoodIn wsL_law (wsV RL 171 RX10 yX10_differentialFor wsX10_differentialFor) := goodIn_app (goodIn_of _ (by decide +kernel)) ggL_law_X10_differentialFor
set_option maxRecDepth 20000 in
theorem ggL_law_X9_hours : GoodIn wsL_law wsX9_hours := goodIn_r _ [827, 17, 828, 829, 961, 962, 963, 964, 965, 971, 972, 973, 974, 975, 976, 977, 978, 979, 980, 981, 982, 983, 984, 985, 986, 987, 988, 989, 990, 1017, 1018, 1019, 1020, 1021] (by decide +kernel) (by decide +kernel)
set_option maxRecDepth 20000 in
theorem gL_law_X9_hours : GoodIn wsL_law (wsV RL 172 RX9 yX9_hours wsX9_hours) := goodIn_app (goodIn_of _ (by decide +kernel)) ggL_law_X9_hours
set_option maxRecDepth 20000 in
theorem ggL_law_X10_hours : GoodIn wsL_law wsX10_hours := goodIn_r _ [833, 107, 715, 716, 717, 5, 718, 257, 966, 967, 968, 969, 970] (by decide +kernel) (by decide +kernel)
set_option maxRecDepth 20000 in
theorem gL_law_X10_hours : GoodIn wsL_law (wsV RL 175 RX10 yX10_hours wsX10_hours) := goodIn_app (goodIn_of _ (by decide +kernel)) ggL_law_X10_hours
set_option maxRecDepth 20000 in
theorem ggL_law_L_hour : GoodIn wsL_law wsL_hour := goodIn_ca (goodIn_ca (goodIn_r _ [836, 120, 121, 837, 838, 839, 2, 840, 17, 828, 841, 842, 843, 829, 844, 129, 130, 131, 132, 133, 134, 135, 136, 137, 138, 845, 846, 847, 54, 848, 102, 236, 237, 238, 239, 214, 100, 101, 961, 962, 963, 964, 965, 971, 972, 973, 974, 975, 976, 977, 978, 979, 980, 981, 982, 983, 984, 985, 986, 987, 988, 989, 990, 1017, 1018, 1019, 1020, 1021] (by decide +kernel) (by decide +kernel)) (goodIn_sub (fun _ h => List.mem_append_left _ (List.mem_append_left _ (List.mem_append_right _ h))) (by decide +kernel))) (goodIn_sub (fun _ h => List.mem_append_left _ (List.mem_append_right _ h)) (by decide +kernel))
set_option maxRecDepth 20000 in
theorem gL_law_L_hour : GoodIn wsL_law (va_wsS RL 176 yL_hour wsL_hour) := goodIn_app (goodIn_of _ (by decide +kernel)) ggL_law_L_hour
set_option maxRecDepth 20000 in
theorem ggL_law_X10_hour : GoodIn wsL_law wsX10_hour := goodIn_r _ [852, 853, 854, 855, 5, 856, 107, 257, 250, 251, 252, 253, 254, 255, 256, 966, 967, 968, 969, 970] (by decide +kernel) (by decide +kernel)
set_option maxRecDepth 20000 in
theorem gL_law_X10_hour : GoodIn wsL_law (wsV RL 178 RX10 yX10_hour wsX10_hour) := goodIn_app (goodIn_of _ (by decide +kernel)) ggL_law_X10_hour
set_option maxRecDepth 20000 in
theorem ggL_law_X9_days : GoodIn wsL_law wsX9_days := goodIn_r _ [860, 17, 861, 829, 961, 962, 963, 964, 965, 971, 972, 973, 974, 975, 976, 977, 978, 979, 980, 981, 982, 983, 984, 985, 986, 987, 988, 989, 990, 1017, 1018, 1019, 1020, 1021] (by decide +kernel) (by decide +kernel)
set_option maxRecDepth 20000 in
theorem gL_law_X9_days : GoodIn wsL_law (wsV RL 179 RX9 yX9_days wsX9_days) := goodIn_app (goodIn_of _ (by decide +kernel)) ggL_law_X9_days
set_option maxRecDepth 20000 in
theorem ggL_law_X10_days : GoodIn wsL_law wsX10_days := goodIn_r _ [865, 107, 715, 716, 717, 5, 718, 257, 966, 967, 968, 969, 970] (by decide +kernel) (by decide +kernel)
set_option maxRecDepth 20000 in
theorem gL_law_X10_days : GoodIn wsL_law (wsV RL 182 RX10 yX10_days wsX10_days) := goodIn_app (goodIn_of _ (by decide +kernel)) ggL_law_X10_days
set_option maxRecDepth 20000 in
theorem ggL_law_L_day : GoodIn wsL_law wsL_day := goodIn_ca (goodIn_ca (goodIn_r _ [868, 120, 121, 869, 870, 871, 2, 872, 17, 861, 841, 842, 843, 829, 844, 129, 130, 131, 132, 133, 134, 135, 136, 137, 138, 845, 846, 847, 54, 848, 102, 236, 237, 238, 239, 214, 100, 101, 961, 962, 963, 964, 965, 971, 972, 973, 974, 975, 976, 977, 978, 979, 980, 981, 982, 983, 984, 985, 986, 987, 988, 989, 990, 1017, 1018, 1019, 1020, 1021] (by decide +kernel) (by decide +kernel)) (goodIn_sub (fun _ h => List.mem_append_left _ (List.mem_append_left _ (List.mem_append_right _ h))) (by decide +kernel))) (goodIn_sub (fun _ h => List.mem_append_left _ (List.mem_append_right _ h)) (by decide +kernel))
set_option maxRecDepth 20000 in
theorem gL_law_L_day : GoodIn wsL_law (va_wsS RL 183 yL_day wsL_day) := goodIn_app (goodIn_of _ (by decide +kernel)) ggL_law_L_day
set_option maxRecDepth 20000 in
theorem ggL_law_X10_day : GoodIn wsL_law wsX10_day := goodIn_r _ [876, 853, 854, 855, 5, 856, 107, 257, 250, 251, 252, 253, 254, 255, 256, 966, 967, 968, 969, 970] (by decide +kernel) (by decide +kernel)
set_option maxRecDepth 20000 in
theorem gL_law_X10_day : GoodIn wsL_law (wsV RL 185 RX10 yX10_day wsX10_day) := goodIn_app (goodIn_of _ (by decide +kernel)) ggL_law_X10_day
set_option maxRecDepth 20000 in
theorem ggL_law_X9_events : GoodIn wsL_law wsX9_events := goodIn_r _ [880, 17, 881, 829, 961, 962, 963, 964, 965, 971, 972, 973, 974, 975, 976, 977, 978, 979, 980, 981, 982, 983, 984, 985, 986, 987, 988, 989, 990, 1017, 1018, 1019, 1020, 1021] (by decide +kernel) (by decide +kernel)
set_option maxRecDepth 20000 in
theorem gL_law_X9_events : GoodIn wsL_law (wsV RL 186 RX9 yX9_events wsX9_events) := goodIn_app (goodIn_of _ (by decide +kernel)) ggL_law_X9_events
set_option maxRecDepth 20000 in
theorem ggL_law_X10_events : GoodIn wsL_law wsX10_events := goodIn_r _ [885, 107, 715, 716, 717, 5, 718, 257, 966, 967, 968, 969, 970] (by decide +kernel) (by decide +kernel)
set_option maxRecDepth 20000 in
theorem gL_law_X10_events : GoodIn wsL_law (wsV RL 189 RX10 yX10_events wsX10_events) := goodIn_app (goodIn_of _ (by decide +kernel)) ggL_law_X10_events
set_option maxRecDepth 20000 in
theorem ggL_law_L_event : GoodIn wsL_law wsL_event := goodIn_ca (goodIn_ca (goodIn_r _ [888, 120, 121, 889, 890, 891, 2, 892, 17, 881, 841, 842, 843, 829, 844, 129, 130, 131, 132, 133, 134, 135, 136, 137, 138, 845, 846, 847, 54, 848, 102, 236, 237, 238, 239, 214, 100, 101, 961, 962, 963, 964, 965, 971, 972, 973, 974, 975, 976, 977, 978, 979, 980, 981, 982, 983, 984, 985, 986, 987, 988, 989, 990, 1017, 1018, 1019, 1020, 1021] (by decide +kernel) (by decide +kernel)) (goodIn_sub (fun _ h => List.mem_append_left _ (List.mem_append_left _ (List.mem_append_right _ h))) (by decide +kernel))) (goodIn_sub (fun _ h => List.mem_append_left _ (List.mem_append_right _ h)) (by decide +kernel))
set_option maxRecDepth 20000 in
theorem gL_law_L_event : GoodIn wsL_law (va_wsS RL 190 yL_event wsL_event) := goodIn_app (goodIn_of _ (by decide +kernel)) ggL_law_L_event
set_option maxRecDepth 20000 in
theorem ggL_law_X10_event : GoodIn wsL_law wsX10_event := goodIn_r _ [896, 853, 854, 855, 5, 856, 107, 257, 250, 251, 252, 253, 254, 255, 256, 966, 967, 968, 969, 970] (by decide +kernel) (by decide +kernel)
set_option maxRecDepth 20000 in
theorem gL_law_X10_event : GoodIn wsL_law (wsV RL 192 RX10 yX10_event wsX10_event) := goodIn_app (goodIn_of _ (by decide +kernel)) ggL_law_X10_event
set_option maxRecDepth 20000 in
theorem ggL_law_L_undo : GoodIn wsL_law wsL_undo := goodIn_ca (goodIn_r _ [899, 665, 900, 901, 902, 2, 903, 143, 17, 18, 19, 20, 674, 675, 676, 677, 678, 961, 962, 963, 964, 965] (by decide +kernel) (by decide +kernel)) (goodIn_sub (fun _ h => List.mem_append_right _ h) (by decide +kernel))
set_option maxRecDepth 20000 in
theorem gL_law_L_undo : GoodIn wsL_law (va_wsS RL 193 yL_undo wsL_undo) := goodIn_app (goodIn_of _ (by decide +kernel)) ggL_law_L_undo
set_option maxRecDepth 20000 in
theorem ggL_law_X10_undo : GoodIn wsL_law wsX10_undo := goodIn_r _ [907, 266, 107, 108, 253, 254, 255, 5, 256, 257, 715, 716, 717, 718, 966, 967, 968, 969, 970] (by decide +kernel) (by decide +kernel)
set_option maxRecDepth 20000 in
theorem gL_law_X10_undo : GoodIn wsL_law (wsV RL 195 RX10 yX10_undo wsX10_undo) := goodIn_app (goodIn_of _ (by decide +kernel)) ggL_law_X10_undo
set_option maxRecDepth 20000 in
theorem ggL_law_X9_digest : GoodIn wsL_law wsX9_digest := goodIn_r _ [911, 17, 912, 143, 913, 914, 2, 915, 916, 917, 918, 919, 16, 920, 31, 154, 155, 156, 39, 527, 43, 921, 55, 56, 57, 922, 923, 924, 925, 152, 35, 926, 927, 928, 929, 153, 430, 217, 218, 219, 27, 28, 29, 30, 930, 931, 932, 26, 933, 63, 163, 62, 65, 934, 935, 936, 34, 937, 72, 73, 461, 462, 463, 464, 423, 465, 466, 467, 468, 69, 469, 455, 146, 456, 470, 471, 472, 473, 396, 474, 475, 476, 477, 478, 479, 480, 938, 776, 777, 778, 157, 158, 506, 47, 524, 939, 940, 941, 54, 942, 215, 101, 943, 846, 847, 848, 102, 236, 237, 238, 239, 214, 100, 961, 962, 963, 964, 965, 971, 972, 973, 974, 975, 976, 977, 978, 979, 980, 981, 982, 983, 984, 985, 986, 987, 988, 989, 990, 1001, 1002, 1003, 1004, 1005, 1006, 1007, 1008, 1009, 997, 998, 999, 1000, 991, 992, 993, 994, 995, 996, 1010, 1011, 1012, 1013, 1017, 1018, 1019, 1020, 1021] (by decide +kernel) (by decide +kernel)
set_option maxRecDepth 20000 in
theorem gL_law_X9_digest : GoodIn wsL_law (wsV RL 196 RX9 yX9_digest wsX9_digest) := goodIn_app (goodIn_of _ (by decide +kernel)) ggL_law_X9_digest
set_option maxRecDepth 20000 in
theorem ggL_law_X10_digest : GoodIn wsL_law wsX10_digest := goodIn_r _ [947, 257, 948, 949, 266, 950, 107, 603, 249, 635, 951, 335, 952, 953, 954, 5, 955, 956, 957, 958, 959, 960, 746, 747, 748, 749, 615, 616, 617, 618, 619, 620, 621, 622, 623, 624, 408, 409, 410, 783, 784, 785, 786, 966, 967, 968, 969, 970] (by decide +kernel) (by decide +kernel)
set_option maxRecDepth 20000 in
theorem gL_law_X10_digest : GoodIn wsL_law (wsV RL 199 RX10 yX10_digest wsX10_digest) := goodIn_app (goodIn_of _ (by decide +kernel)) ggL_law_X10_digest

set_option maxRecDepth 20000 in
theorem gL_total_X9_total : GoodIn wsL_total (wsV RL 58 RX9 yX9_total wsX9_total) := goodIn_app (goodIn_of _ (by decide +kernel)) ggL_total_X9_total
theorem dL_total_0 : decode cL_total 0 = .ok (.aload_n 2, 1) := by decide +kernel
theorem dL_total_1 : decode cL_total 1 = .ok (.iconst 0, 1) := by decide +kernel
theorem dL_total_2 : decode cL_total 2 = .ok (.aload_n 0, 1) := by decide +kernel
theorem dL_total_3 : decode cL_total 3 = .ok (.iload_n 1, 1) := by decide +kernel
theorem dL_total_4 : decode cL_total 4 = .ok (.invokevirtual 58, 3) := by decide +kernel
theorem dL_total_7 : decode cL_total 7 = .ok (.lastore, 1) := by decide +kernel
theorem dL_total_8 : decode cL_total 8 = .ok (.goto 6, 3) := by decide +kernel
theorem dL_total_11 : decode cL_total 11 = .ok (.astore_n 3, 1) := by decide +kernel
theorem dL_total_12 : decode cL_total 12 = .ok (.iconst 1, 1) := by decide +kernel
theorem dL_total_13 : decode cL_total 13 = .ok (.ireturn, 1) := by decide +kernel
theorem dL_total_14 : decode cL_total 14 = .ok (.iconst 0, 1) := by decide +kernel
theorem dL_total_15 : decode cL_total 15 = .ok (.ireturn, 1) := by decide +kernel
set_option maxRecDepth 20000 in
theorem ggL_flowFor_X9_flowFor : GoodIn wsL_flowFor wsX9_flowFor := goodIn_ca (goodIn_r _ [6, 7, 8, 9, 10, 11, 12, 13, 5, 14, 15, 16, 17, 18, 19, 20, 21, 22, 23, 24, 25, 26, 27, 28, 29, 30, 31, 32, 33, 34, 35, 36, 37, 38, 39, 40, 41, 42, 43, 44, 45, 46, 47, 48, 49, 50, 51, 52, 53, 54, 55, 56, 57, 58, 59, 60, 61, 62, 63, 64, 65, 66, 67, 68, 69, 70, 71, 72, 73, 74, 75, 76, 77, 78, 79, 80, 81, 82, 83, 84, 85, 86, 87] (by decide +kernel) (by decide +kernel)) (goodIn_sub (fun _ h => List.mem_cons_of_mem _ (List.mem_append_right _ h)) (by decide +kernel))
set_option maxRecDepth 20000 in
theorem gL_flowFor_X9_flowFor : GoodIn wsL_flowFor (wsV RL 61 RX9 yX9_flowFor wsX9_flowFor) := goodIn_app (goodIn_of _ (by decide +kernel)) ggL_flowFor_X9_flowFor
theorem dL_flowFor_0 : decode cL_flowFor 0 = .ok (.aload 4, 2) := by decide +kernel
theorem dL_flowFor_2 : decode cL_flowFor 2 = .ok (.iconst 0, 1) := by decide +kernel
theorem dL_flowFor_3 : decode cL_flowFor 3 = .ok (.aload_n 0, 1) := by decide +kernel
theorem dL_flowFor_4 : decode cL_flowFor 4 = .ok (.iload_n 1, 1) := by decide +kernel
theorem dL_flowFor_5 : decode cL_flowFor 5 = .ok (.iload_n 2, 1) := by decide +kernel
theorem dL_flowFor_6 : decode cL_flowFor 6 = .ok (.iload_n 3, 1) := by decide +kernel
theorem dL_flowFor_7 : decode cL_flowFor 7 = .ok (.invokevirtual 61, 3) := by decide +kernel
theorem dL_flowFor_10 : decode cL_flowFor 10 = .ok (.lastore, 1) := by decide +kernel
theorem dL_flowFor_11 : decode cL_flowFor 11 = .ok (.goto 7, 3) := by decide +kernel
theorem dL_flowFor_14 : decode cL_flowFor 14 = .ok (.astore 5, 2) := by decide +kernel
theorem dL_flowFor_16 : decode cL_flowFor 16 = .ok (.iconst 1, 1) := by decide +kernel
theorem dL_flowFor_17 : decode cL_flowFor 17 = .ok (.ireturn, 1) := by decide +kernel
theorem dL_flowFor_18 : decode cL_flowFor 18 = .ok (.iconst 0, 1) := by decide +kernel
theorem dL_flowFor_19 : decode cL_flowFor 19 = .ok (.ireturn, 1) := by decide +kernel
set_option maxRecDepth 20000 in
theorem ggL_differentialFor_X9_differentialFor : GoodIn wsL_differentialFor wsX9_differentialFor := goodIn_ca (goodIn_r _ [6, 7, 8, 9, 10, 11, 12, 13, 5, 14, 15, 16, 17, 18, 19, 20, 21, 22, 23, 24, 25, 26, 27, 28, 29, 30, 31, 32, 33, 34, 35, 36, 37, 38, 39, 40, 41, 42, 43, 44, 45, 46, 47, 48, 49, 50, 51, 52, 53, 54, 55, 56, 57, 58, 59, 60, 61, 62, 63, 64, 65, 66, 67, 68, 69, 70, 71, 72, 73, 74, 75, 76, 77, 78, 79, 80, 81, 82, 83, 84, 85, 86, 87, 88, 89, 90, 91, 92, 93, 94, 95, 96, 97, 98, 99, 100, 101, 102] (by decide +kernel) (by decide +kernel)) (goodIn_sub (fun _ h => List.mem_cons_of_mem _ (List.mem_append_right _ h)) (by decide +kernel))
set_option maxRecDepth 20000 in
theorem gL_differentialFor_X9_differentialFor : GoodIn wsL_differentialFor (wsV RL 65 RX9 yX9_differentialFor wsX9_differentialFor) := goodIn_app (goodIn_of _ (by decide +kernel)) ggL_differentialFor_X9_differentialFor
theorem dL_differentialFor_0 : decode cL_differentialFor 0 = .ok (.aload_n 3, 1) := by decide +kernel
theorem dL_differentialFor_1 : decode cL_differentialFor 1 = .ok (.iconst 0, 1) := by decide +kernel
theorem dL_differentialFor_2 : decode cL_differentialFor 2 = .ok (.aload_n 0, 1) := by decide +kernel
theorem dL_differentialFor_3 : decode cL_differentialFor 3 = .ok (.lload_n 1, 1) := by decide +kernel
theorem dL_differentialFor_4 : decode cL_differentialFor 4 = .ok (.invokevirtual 65, 3) := by decide +kernel
theorem dL_differentialFor_7 : decode cL_differentialFor 7 = .ok (.i2l, 1) := by decide +kernel
theorem dL_differentialFor_8 : decode cL_differentialFor 8 = .ok (.lastore, 1) := by decide +kernel
theorem dL_differentialFor_9 : decode cL_differentialFor 9 = .ok (.goto 7, 3) := by decide +kernel
theorem dL_differentialFor_12 : decode cL_differentialFor 12 = .ok (.astore 4, 2) := by decide +kernel
theorem dL_differentialFor_14 : decode cL_differentialFor 14 = .ok (.iconst 1, 1) := by decide +kernel
theorem dL_differentialFor_15 : decode cL_differentialFor 15 = .ok (.ireturn, 1) := by decide +kernel
theorem dL_differentialFor_16 : decode cL_differentialFor 16 = .ok (.iconst 0, 1) := by decide +kernel
theorem dL_differentialFor_17 : decode cL_differentialFor 17 = .ok (.ireturn, 1) := by decide +kernel
set_option maxRecDepth 20000 in
theorem ggL_hour_X9_hour : GoodIn wsL_hour wsX9_hour := goodIn_ca (goodIn_ca (goodIn_r _ [7, 8, 9, 10, 11, 6, 12, 13, 14, 15, 16, 17, 18, 19, 20, 21, 22, 23, 24, 25, 26, 27, 28, 29, 30, 31, 32, 33, 34, 35, 36, 37, 38, 39, 40, 41, 42, 43, 44, 45, 46, 47, 48, 49, 50, 51, 52, 53, 54, 55, 56, 57, 58, 59, 60, 61, 62, 63, 64, 65, 66, 67] (by decide +kernel) (by decide +kernel)) (goodIn_sub (fun _ h => List.mem_cons_of_mem _ (List.mem_append_left _ (List.mem_append_right _ h))) (by decide +kernel))) (goodIn_sub (fun _ h => List.mem_cons_of_mem _ (List.mem_append_right _ h)) (by decide +kernel))
set_option maxRecDepth 20000 in
theorem gL_hour_X9_hour : GoodIn wsL_hour (wsV RL 69 RX9 yX9_hour wsX9_hour) := goodIn_app (goodIn_of _ (by decide +kernel)) ggL_hour_X9_hour
theorem dL_hour_0 : decode cL_hour 0 = .ok (.aload_n 3, 1) := by decide +kernel
theorem dL_hour_1 : decode cL_hour 1 = .ok (.iconst 0, 1) := by decide +kernel
theorem dL_hour_2 : decode cL_hour 2 = .ok (.aload_n 0, 1) := by decide +kernel
theorem dL_hour_3 : decode cL_hour 3 = .ok (.iload_n 1, 1) := by decide +kernel
theorem dL_hour_4 : decode cL_hour 4 = .ok (.iload_n 2, 1) := by decide +kernel
theorem dL_hour_5 : decode cL_hour 5 = .ok (.invokevirtual 69, 3) := by decide +kernel
theorem dL_hour_8 : decode cL_hour 8 = .ok (.lastore, 1) := by decide +kernel
theorem dL_hour_9 : decode cL_hour 9 = .ok (.goto 11, 3) := by decide +kernel
theorem dL_hour_12 : decode cL_hour 12 = .ok (.astore 4, 2) := by decide +kernel
theorem dL_hour_14 : decode cL_hour 14 = .ok (.iconst 1, 1) := by decide +kernel
theorem dL_hour_15 : decode cL_hour 15 = .ok (.ireturn, 1) := by decide +kernel
theorem dL_hour_16 : decode cL_hour 16 = .ok (.astore 4, 2) := by decide +kernel
theorem dL_hour_18 : decode cL_hour 18 = .ok (.iconst 2, 1) := by decide +kernel
theorem dL_hour_19 : decode cL_hour 19 = .ok (.ireturn, 1) := by decide +kernel
theorem dL_hour_20 : decode cL_hour 20 = .ok (.iconst 0, 1) := by decide +kernel
theorem dL_hour_21 : decode cL_hour 21 = .ok (.ireturn, 1) := by decide +kernel
set_option maxRecDepth 20000 in
theorem ggL_day_X9_day : GoodIn wsL_day wsX9_day := goodIn_ca (goodIn_ca (goodIn_r _ [7, 8, 9, 10, 11, 6, 12, 13, 14, 15, 16, 17, 18, 19, 20, 21, 22, 23, 24, 25, 26, 27, 28, 29, 30, 31, 32, 33, 34, 35, 36, 37, 38, 39, 40, 41, 42, 43, 44, 45, 46, 47, 48, 49, 50, 51, 52, 53, 54, 55, 56, 57, 58, 59, 60, 61, 62, 63, 64, 65, 66, 67] (by decide +kernel) (by decide +kernel)) (goodIn_sub (fun _ h => List.mem_cons_of_mem _ (List.mem_append_left _ (List.mem_append_right _ h))) (by decide +kernel))) (goodIn_sub (fun _ h => List.mem_cons_of_mem _ (List.mem_append_right _ h)) (by decide +kernel))
set_option maxRecDepth 20000 in
theorem gL_day_X9_day : GoodIn wsL_day (wsV RL 73 RX9 yX9_day wsX9_day) := goodIn_app (goodIn_of _ (by decide +kernel)) ggL_day_X9_day
theorem dL_day_0 : decode cL_day 0 = .ok (.aload_n 3, 1) := by decide +kernel
theorem dL_day_1 : decode cL_day 1 = .ok (.iconst 0, 1) := by decide +kernel
theorem dL_day_2 : decode cL_day 2 = .ok (.aload_n 0, 1) := by decide +kernel
theorem dL_day_3 : decode cL_day 3 = .ok (.iload_n 1, 1) := by decide +kernel
theorem dL_day_4 : decode cL_day 4 = .ok (.iload_n 2, 1) := by decide +kernel
theorem dL_day_5 : decode cL_day 5 = .ok (.invokevirtual 73, 3) := by decide +kernel
theorem dL_day_8 : decode cL_day 8 = .ok (.lastore, 1) := by decide +kernel
theorem dL_day_9 : decode cL_day 9 = .ok (.goto 11, 3) := by decide +kernel
theorem dL_day_12 : decode cL_day 12 = .ok (.astore 4, 2) := by decide +kernel
theorem dL_day_14 : decode cL_day 14 = .ok (.iconst 1, 1) := by decide +kernel
theorem dL_day_15 : decode cL_day 15 = .ok (.ireturn, 1) := by decide +kernel
theorem dL_day_16 : decode cL_day 16 = .ok (.astore 4, 2) := by decide +kernel
theorem dL_day_18 : decode cL_day 18 = .ok (.iconst 2, 1) := by decide +kernel
theorem dL_day_19 : decode cL_day 19 = .ok (.ireturn, 1) := by decide +kernel
theorem dL_day_20 : decode cL_day 20 = .ok (.iconst 0, 1) := by decide +kernel
theorem dL_day_21 : decode cL_day 21 = .ok (.ireturn, 1) := by decide +kernel
set_option maxRecDepth 20000 in
theorem ggL_event_X9_event : GoodIn wsL_event wsX9_event := goodIn_ca (goodIn_ca (goodIn_r _ [7, 8, 9, 10, 11, 6, 12, 13, 14, 15, 16, 17, 18, 19, 20, 21, 22, 23, 24, 25, 26, 27, 28, 29, 30, 31, 32, 33, 34, 35, 36, 37, 38, 39, 40, 41, 42, 43, 44, 45, 46, 47, 48, 49, 50, 51, 52, 53, 54, 55, 56, 57, 58, 59, 60, 61, 62, 63, 64, 65, 66, 67] (by decide +kernel) (by decide +kernel)) (goodIn_sub (fun _ h => List.mem_cons_of_mem _ (List.mem_append_left _ (List.mem_append_right _ h))) (by decide +kernel))) (goodIn_sub (fun _ h => List.mem_cons_of_mem _ (List.mem_append_right _ h)) (by decide +kernel))
set_option maxRecDepth 20000 in
theorem gL_event_X9_event : GoodIn wsL_event (wsV RL 76 RX9 yX9_event wsX9_event) := goodIn_app (goodIn_of _ (by decide +kernel)) ggL_event_X9_event
theorem dL_event_0 : decode cL_event 0 = .ok (.aload_n 3, 1) := by decide +kernel
theorem dL_event_1 : decode cL_event 1 = .ok (.iconst 0, 1) := by decide +kernel
theorem dL_event_2 : decode cL_event 2 = .ok (.aload_n 0, 1) := by decide +kernel
theorem dL_event_3 : decode cL_event 3 = .ok (.iload_n 1, 1) := by decide +kernel
theorem dL_event_4 : decode cL_event 4 = .ok (.iload_n 2, 1) := by decide +kernel
theorem dL_event_5 : decode cL_event 5 = .ok (.invokevirtual 76, 3) := by decide +kernel
theorem dL_event_8 : decode cL_event 8 = .ok (.lastore, 1) := by decide +kernel
theorem dL_event_9 : decode cL_event 9 = .ok (.goto 11, 3) := by decide +kernel
theorem dL_event_12 : decode cL_event 12 = .ok (.astore 4, 2) := by decide +kernel
theorem dL_event_14 : decode cL_event 14 = .ok (.iconst 1, 1) := by decide +kernel
theorem dL_event_15 : decode cL_event 15 = .ok (.ireturn, 1) := by decide +kernel
theorem dL_event_16 : decode cL_event 16 = .ok (.astore 4, 2) := by decide +kernel
theorem dL_event_18 : decode cL_event 18 = .ok (.iconst 2, 1) := by decide +kernel
theorem dL_event_19 : decode cL_event 19 = .ok (.ireturn, 1) := by decide +kernel
theorem dL_event_20 : decode cL_event 20 = .ok (.iconst 0, 1) := by decide +kernel
theorem dL_event_21 : decode cL_event 21 = .ok (.ireturn, 1) := by decide +kernel
set_option maxRecDepth 20000 in
theorem ggL_undo_X9_undo : GoodIn wsL_undo wsX9_undo := goodIn_ca (goodIn_r _ [6, 7, 8, 9, 10, 11, 12, 13, 5, 14, 15, 16, 17, 18, 19, 20, 21] (by decide +kernel) (by decide +kernel)) (goodIn_sub (fun _ h => List.mem_cons_of_mem _ (List.mem_append_right _ h)) (by decide +kernel))
set_option maxRecDepth 20000 in
theorem gL_undo_X9_undo : GoodIn wsL_undo (wsV RL 79 RX9 yX9_undo wsX9_undo) := goodIn_app (goodIn_of _ (by decide +kernel)) ggL_undo_X9_undo
theorem dL_undo_0 : decode cL_undo 0 = .ok (.aload_n 1, 1) := by decide +kernel
theorem dL_undo_1 : decode cL_undo 1 = .ok (.iconst 0, 1) := by decide +kernel
theorem dL_undo_2 : decode cL_undo 2 = .ok (.aload_n 0, 1) := by decide +kernel
theorem dL_undo_3 : decode cL_undo 3 = .ok (.invokevirtual 79, 3) := by decide +kernel
theorem dL_undo_6 : decode cL_undo 6 = .ok (.i2l, 1) := by decide +kernel
theorem dL_undo_7 : decode cL_undo 7 = .ok (.lastore, 1) := by decide +kernel
theorem dL_undo_8 : decode cL_undo 8 = .ok (.goto 6, 3) := by decide +kernel
theorem dL_undo_11 : decode cL_undo 11 = .ok (.astore_n 2, 1) := by decide +kernel
theorem dL_undo_12 : decode cL_undo 12 = .ok (.iconst 1, 1) := by decide +kernel
theorem dL_undo_13 : decode cL_undo 13 = .ok (.ireturn, 1) := by decide +kernel
theorem dL_undo_14 : decode cL_undo 14 = .ok (.iconst 0, 1) := by decide +kernel
theorem dL_undo_15 : decode cL_undo 15 = .ok (.ireturn, 1) := by decide +kernel

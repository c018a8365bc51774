set_option maxRecDepth 20000 in
theorem ggL_law_X10_differential : GoodIn wsL_law wsX10_differential := goodIn_r _ [736, 107, 715, 716, 717, 5, 718, 257, 966, 967, 968, 969, 970] (by decide +kernel) (by decide +kernel)
set_option maxRecDepth 20000 in
theorem gL_law_X10_differential : GoodIn wsL_law (wsV RL 141 RX10 yX10_differential wsX10_differential) := goodIn_app (goodIn_of _ (by decide +kernel)) ggL_law_X10_differential
set_option maxRecDepth 20000 in
theorem ggL_law_X9_density : GoodIn wsL_law wsX9_density := goodIn_r _ [740, 17, 741, 462, 463, 16, 464, 35, 29, 423, 30, 465, 466, 467, 34, 468, 69, 72, 469, 455, 146, 456, 470, 471, 472, 473, 396, 474, 475, 476, 477, 478, 479, 480, 961, 962, 963, 964, 965, 971, 972, 973, 974, 975, 976, 977, 978, 979, 980, 981, 982, 983, 984, 985, 986, 987, 988, 989, 990, 991, 992, 993, 994, 995, 996, 997, 998, 999, 1000] (by decide +kernel) (by decide +kernel)
set_option maxRecDepth 20000 in
theorem gL_law_X9_density : GoodIn wsL_law (wsV RL 142 RX9 yX9_density wsX9_density) := goodIn_app (goodIn_of _ (by decide +kernel)) ggL_law_X9_density
set_option maxRecDepth 20000 in
theorem ggL_law_X10_density : GoodIn wsL_law wsX10_density := goodIn_r _ [745, 257, 746, 747, 748, 5, 749, 107, 615, 616, 617, 618, 619, 620, 621, 622, 623, 624, 408, 409, 410, 966, 967, 968, 969, 970] (by decide +kernel) (by decide +kernel)
set_option maxRecDepth 20000 in
theorem gL_law_X10_density : GoodIn wsL_law (wsV RL 145 RX10 yX10_density wsX10_density) := goodIn_app (goodIn_of _ (by decide +kernel)) ggL_law_X10_density
set_option maxRecDepth 20000 in
theorem ggL_law_X9_flow : GoodIn wsL_law wsX9_flow := goodIn_r _ [753, 17, 754, 961, 962, 963, 964, 965, 971, 972, 973, 974, 975, 976, 977, 978, 979, 980, 981, 982, 983, 984, 985, 986, 987, 988, 989, 990] (by decide +kernel) (by decide +kernel)
set_option maxRecDepth 20000 in
theorem gL_law_X9_flow : GoodIn wsL_law (wsV RL 146 RX9 yX9_flow wsX9_flow) := goodIn_app (goodIn_of _ (by decide +kernel)) ggL_law_X9_flow
set_option maxRecDepth 20000 in
theorem ggL_law_X10_flow : GoodIn wsL_law wsX10_flow := goodIn_r _ [758, 257, 107, 966, 967, 968, 969, 970] (by decide +kernel) (by decide +kernel)
set_option maxRecDepth 20000 in
theorem gL_law_X10_flow : GoodIn wsL_law (wsV RL 149 RX10 yX10_flow wsX10_flow) := goodIn_app (goodIn_of _ (by decide +kernel)) ggL_law_X10_flow
set_option maxRecDepth 20000 in
theorem ggL_law_X9_isFlowing : GoodIn wsL_law wsX9_isFlowing := goodIn_r _ [762, 17, 359, 763, 961, 962, 963, 964, 965, 971, 972, 973, 974, 975, 976, 977, 978, 979, 980, 981, 982, 983, 984, 985, 986, 987, 988, 989, 990, 1001, 1002, 1003] (by decide +kernel) (by decide +kernel)
set_option maxRecDepth 20000 in
theorem gL_law_X9_isFlowing : GoodIn wsL_law (wsV RL 150 RX9 yX9_isFlowing wsX9_isFlowing) := goodIn_app (goodIn_of _ (by decide +kernel)) ggL_law_X9_isFlowing
set_option maxRecDepth 20000 in
theorem ggL_law_X10_isFlowing : GoodIn wsL_law wsX10_isFlowing := goodIn_r _ [767, 257, 107, 966, 967, 968, 969, 970] (by decide +kernel) (by decide +kernel)
set_option maxRecDepth 20000 in
theorem gL_law_X10_isFlowing : GoodIn wsL_law (wsV RL 154 RX10 yX10_isFlowing wsX10_isFlowing) := goodIn_app (goodIn_of _ (by decide +kernel)) ggL_law_X10_isFlowing
set_option maxRecDepth 20000 in
theorem ggL_law_L_total : GoodIn wsL_law wsL_total := goodIn_ca (goodIn_r _ [770, 121, 771, 772, 773, 2, 774, 708, 17, 134, 135, 136, 137, 138, 775, 776, 777, 16, 778, 157, 158, 43, 506, 47, 524, 961, 962, 963, 964, 965, 971, 972, 973, 974, 975, 976, 977, 978, 979, 980, 981, 982, 983, 984, 985, 986, 987, 988, 989, 990, 1004, 1005, 1006, 1007, 1008, 1009, 1010, 1011, 1012, 1013] (by decide +kernel) (by decide +kernel)) (goodIn_sub (fun _ h => List.mem_append_left _ (List.mem_append_right _ h)) (by decide +kernel))
set_option maxRecDepth 20000 in
theorem gL_law_L_total : GoodIn wsL_law (va_wsS RL 155 yL_total wsL_total) := goodIn_app (goodIn_of _ (by decide +kernel)) ggL_law_L_total
set_option maxRecDepth 20000 in
theorem ggL_law_X10_total : GoodIn wsL_law wsX10_total := goodIn_r _ [782, 249, 257, 250, 251, 5, 252, 253, 254, 255, 256, 783, 784, 785, 786, 107, 966, 967, 968, 969, 970] (by decide +kernel) (by decide +kernel)
set_option maxRecDepth 20000 in
theorem gL_law_X10_total : GoodIn wsL_law (wsV RL 157 RX10 yX10_total wsX10_total) := goodIn_app (goodIn_of _ (by decide +kernel)) ggL_law_X10_total
set_option maxRecDepth 20000 in
theorem ggL_law_X9_valve : GoodIn wsL_law wsX9_valve := goodIn_r _ [790, 17, 671, 791, 961, 962, 963, 964, 965, 971, 972, 973, 974, 975, 976, 977, 978, 979, 980, 981, 982, 983, 984, 985, 986, 987, 988, 989, 990, 1004, 1005, 1006, 1007, 1008, 1009] (by decide +kernel) (by decide +kernel)
set_option maxRecDepth 20000 in
theorem gL_law_X9_valve : GoodIn wsL_law (wsV RL 158 RX9 yX9_valve wsX9_valve) := goodIn_app (goodIn_of _ (by decide +kernel)) ggL_law_X9_valve
set_option maxRecDepth 20000 in
theorem ggL_law_X10_valve : GoodIn wsL_law wsX10_valve := goodIn_r _ [795, 107, 715, 716, 717, 5, 718, 257, 966, 967, 968, 969, 970] (by decide +kernel) (by decide +kernel)
set_option maxRecDepth 20000 in
theorem gL_law_X10_valve : GoodIn wsL_law (wsV RL 161 RX10 yX10_valve wsX10_valve) := goodIn_app (goodIn_of _ (by decide +kernel)) ggL_law_X10_valve
set_option maxRecDepth 20000 in
theorem ggL_law_L_flowFor : GoodIn wsL_law wsL_flowFor := goodIn_ca (goodIn_r _ [798, 121, 799, 800, 801, 2, 802, 127, 803, 804, 17, 300, 134, 135, 136, 137, 138, 805, 466, 467, 34, 468, 69, 72, 469, 455, 146, 456, 470, 471, 472, 473, 396, 474, 475, 476, 477, 478, 479, 480, 806, 482, 483, 484, 485, 70, 486, 487, 73, 488, 489, 490, 491, 492, 493, 494, 495, 395, 397, 961, 962, 963, 964, 965, 971, 972, 973, 974, 975, 976, 977, 978, 979, 980, 981, 982, 983, 984, 985, 986, 987, 988, 989, 990, 997, 998, 999, 1000] (by decide +kernel) (by decide +kernel)) (goodIn_sub (fun _ h => List.mem_append_left _ (List.mem_append_right _ h)) (by decide +kernel))
set_option maxRecDepth 20000 in
theorem gL_law_L_flowFor : GoodIn wsL_law (va_wsS RL 162 yL_flowFor wsL_flowFor) := goodIn_app (goodIn_of _ (by decide +kernel)) ggL_law_L_flowFor
set_option maxRecDepth 20000 in
theorem ggL_law_X10_flowFor : GoodIn wsL_law wsX10_flowFor := goodIn_r _ [810, 245, 115, 643, 257, 250, 251, 5, 252, 253, 254, 255, 256, 625, 626, 627, 628, 107, 244, 112, 109, 629, 630, 615, 616, 617, 618, 619, 620, 621, 622, 623, 624, 408, 409, 410, 631, 632, 633, 634, 635, 636, 637, 638, 639, 640, 641, 642, 966, 967, 968, 969, 970] (by decide +kernel) (by decide +kernel)
set_option maxRecDepth 20000 in
theorem gL_law_X10_flowFor : GoodIn wsL_law (wsV RL 165 RX10 yX10_flowFor wsX10_flowFor) := goodIn_app (goodIn_of _ (by decide +kernel)) ggL_law_X10_flowFor
set_option maxRecDepth 20000 in
theorem ggL_law_L_differentialFor : GoodIn wsL_law wsL_differentialFor := goodIn_ca (goodIn_r _ [813, 121, 814, 815, 816, 2, 817, 670, 17, 818, 709, 300, 134, 135, 136, 137, 138, 741, 462, 463, 16, 464, 35, 29, 423, 30, 465, 466, 467, 34, 468, 69, 72, 469, 455, 146, 456, 470, 471, 472, 473, 396, 474, 475, 476, 477, 478, 479, 480, 806, 482, 483, 484, 485, 70, 486, 487, 73, 488, 489, 490, 491, 492, 493, 494, 495, 395, 397, 961, 962, 963, 964, 965, 971, 972, 973, 974, 975, 976, 977, 978, 979, 980, 981, 982, 983, 984, 985, 986, 987, 988, 989, 990, 991, 992, 993, 994, 995, 996, 997, 998, 999, 1000] (by decide +kernel) (by decide +kernel)) (goodIn_sub (fun _ h => List.mem_append_left _ (List.mem_append_right _ h)) (by decide +kernel))
set_option maxRecDepth 20000 in
theorem gL_law_L_differentialFor : GoodIn wsL_law (va_wsS RL 168 yL_differentialFor wsL_differentialFor) := goodIn_app (goodIn_of _ (by decide +kernel)) ggL_law_L_differentialFor
set_option maxRecDepth 20000 in
theorem ggL_law_X10_differentialFor : GoodIn wsL_law wsX10_differentialFor := goodIn_r _ [822, 687, 107, 823, 250, 251, 5, 252, 253, 254, 255, 256, 257, 625, 626, 627, 628, 244, 112, 109, 629, 630, 615, 616, 617, 618, 619, 620, 621, 622, 623, 624, 408, 409, 410, 631, 632, 633, 634, 635, 636, 637, 638, 639, 245, 640, 641, 642, 643, 715, 716, 717, 718, 966, 967, 968, 969, 970] (by decide +kernel) (by decide +kernel)
set_option maxRecDepth 20000 in
theorem gL_law_X10_differentialFor : GoodIn wsL_law (wsV RL 171 RX10 yX10_differentialFor wsX10_differentialFor) := goodIn_app (goodIn_of _ (by decide +kernel)) ggL_law_X10_differentialFor
set_option maxRecDepth 20000 in
theorem ggL_law_X9_hours : GoodIn wsL_law wsX9_hours := goodIn_r _ [827, 17, 828, 829, 961, 962, 963, 964, 965, 971, 972, 973, 974, 975, 976, 977, 978, 979, 980, 981, 982, 983, 984, 985, 986, 987, 988, 989, 990, 1017, 1018, 1019, 1020, 1021] (by decide +kernel) (by decide +kernel)
set_option maxRecDepth 20000 in
theorem gL_law_X9_hours : GoodIn wsL_law (wsV RL 172 RX9 yX9_hours wsX9_hours) := goodIn_app (goodIn_of _ (by decide +kernel)) ggL_law_X9_hours

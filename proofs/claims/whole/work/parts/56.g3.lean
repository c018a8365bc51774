set_option maxRecDepth 20000 in
theorem ggL_law_X10_hours : GoodIn wsL_law wsX10_hours := goodIn_r _ [833, 107, 715, 716, 717, 5, 718, 257, 966, 967, 968, 969, 970] (by decide +kernel) (by decide +kernel)
set_option maxRecDepth 20000 in
theorem gL_law_X10_hours : GoodIn wsL_law (wsV RL 175 RX10 yX10_hours wsX10_hours) := goodIn_app (goodIn_of _ (by decide +kernel)) ggL_law_X10_hours
set_option maxRecDepth 20000 in
theorem ggL_law_L_hour : GoodIn wsL_law wsL_hour := goodIn_ca (goodIn_ca (goodIn_r _ [836, 120, 121, 837, 838, 839, 2, 840, 17, 828, 841, 842, 843, 829, 844, 129, 130, 131, 132, 133, 134, 135, 136, 137, 138, 845, 846, 847, 54, 848, 102, 236, 237, 238, 239, 214, 100, 101, 961, 962, 963, 964, 965, 971, 972, 973, 974, 975, 976, 977, 978, 979, 980, 981, 982, 983, 984, 985, 986, 987, 988, 989, 990, 1017, 1018, 1019, 1020, 1021] (by decide +kernel) (by decide +kernel)) (goodIn_sub (fun _ h => List.mem_append_left _ (List.mem_append_left _ (List.mem_append_right _ h))) (by decide +kernel))) (goodIn_sub (fun _ h => List.mem_append_left _ (List.mem_append_right _ h)) (by decide +kernel))
set_option maxRecDepth 20000 in
theorem gL_law_L_hour : GoodIn wsL_law (va_wsS RL 176 yL_hour wsL_hour) := goodIn_app (goodIn_of _ (by decide +kernel)) ggL_law_L_hour
set_option maxRecDepth 20000 in
theorem ggL_law_X10_hour : GoodIn wsL_law wsX10_hour := goodIn_r _ [852, 853, 854, 855, 5, 856, 107, 257, 250, 251, 252, 253, 254, 255, 256, 966, 967, 968, 969, 970] (by decide +kernel) (by decide +kernel)
set_option maxRecDepth 20000 in
theorem gL_law_X10_hour : GoodIn wsL_law (wsV RL 178 RX10 yX10_hour wsX10_hour) := goodIn_app (goodIn_of _ (by decide +kernel)) ggL_law_X10_hour
set_option maxRecDepth 20000 in
theorem ggL_law_X9_days : GoodIn wsL_law wsX9_days := goodIn_r _ [860, 17, 861, 829, 961, 962, 963, 964, 965, 971, 972, 973, 974, 975, 976, 977, 978, 979, 980, 981, 982, 983, 984, 985, 986, 987, 988, 989, 990, 1017, 1018, 1019, 1020, 1021] (by decide +kernel) (by decide +kernel)
set_option maxRecDepth 20000 in
theorem gL_law_X9_days : GoodIn wsL_law (wsV RL 179 RX9 yX9_days wsX9_days) := goodIn_app (goodIn_of _ (by decide +kernel)) ggL_law_X9_days
set_option maxRecDepth 20000 in
theorem ggL_law_X10_days : GoodIn wsL_law wsX10_days := goodIn_r _ [865, 107, 715, 716, 717, 5, 718, 257, 966, 967, 968, 969, 970] (by decide +kernel) (by decide +kernel)
set_option maxRecDepth 20000 in
theorem gL_law_X10_days : GoodIn wsL_law (wsV RL 182 RX10 yX10_days wsX10_days) := goodIn_app (goodIn_of _ (by decide +kernel)) ggL_law_X10_days
set_option maxRecDepth 20000 in
theorem ggL_law_L_day : GoodIn wsL_law wsL_day := goodIn_ca (goodIn_ca (goodIn_r _ [868, 120, 121, 869, 870, 871, 2, 872, 17, 861, 841, 842, 843, 829, 844, 129, 130, 131, 132, 133, 134, 135, 136, 137, 138, 845, 846, 847, 54, 848, 102, 236, 237, 238, 239, 214, 100, 101, 961, 962, 963, 964, 965, 971, 972, 973, 974, 975, 976, 977, 978, 979, 980, 981, 982, 983, 984, 985, 986, 987, 988, 989, 990, 1017, 1018, 1019, 1020, 1021] (by decide +kernel) (by decide +kernel)) (goodIn_sub (fun _ h => List.mem_append_left _ (List.mem_append_left _ (List.mem_append_right _ h))) (by decide +kernel))) (goodIn_sub (fun _ h => List.mem_append_left _ (List.mem_append_right _ h)) (by decide +kernel))
set_option maxRecDepth 20000 in
theorem gL_law_L_day : GoodIn wsL_law (va_wsS RL 183 yL_day wsL_day) := goodIn_app (goodIn_of _ (by decide +kernel)) ggL_law_L_day
set_option maxRecDepth 20000 in
theorem ggL_law_X10_day : GoodIn wsL_law wsX10_day := goodIn_r _ [876, 853, 854, 855, 5, 856, 107, 257, 250, 251, 252, 253, 254, 255, 256, 966, 967, 968, 969, 970] (by decide +kernel) (by decide +kernel)
set_option maxRecDepth 20000 in
theorem gL_law_X10_day : GoodIn wsL_law (wsV RL 185 RX10 yX10_day wsX10_day) := goodIn_app (goodIn_of _ (by decide +kernel)) ggL_law_X10_day
set_option maxRecDepth 20000 in
theorem ggL_law_X9_events : GoodIn wsL_law wsX9_events := goodIn_r _ [880, 17, 881, 829, 961, 962, 963, 964, 965, 971, 972, 973, 974, 975, 976, 977, 978, 979, 980, 981, 982, 983, 984, 985, 986, 987, 988, 989, 990, 1017, 1018, 1019, 1020, 1021] (by decide +kernel) (by decide +kernel)
set_option maxRecDepth 20000 in
theorem gL_law_X9_events : GoodIn wsL_law (wsV RL 186 RX9 yX9_events wsX9_events) := goodIn_app (goodIn_of _ (by decide +kernel)) ggL_law_X9_events
set_option maxRecDepth 20000 in
theorem ggL_law_X10_events : GoodIn wsL_law wsX10_events := goodIn_r _ [885, 107, 715, 716, 717, 5, 718, 257, 966, 967, 968, 969, 970] (by decide +kernel) (by decide +kernel)
set_option maxRecDepth 20000 in
theorem gL_law_X10_events : GoodIn wsL_law (wsV RL 189 RX10 yX10_events wsX10_events) := goodIn_app (goodIn_of _ (by decide +kernel)) ggL_law_X10_events
set_option maxRecDepth 20000 in
theorem ggL_law_L_event : GoodIn wsL_law wsL_event := goodIn_ca (goodIn_ca (goodIn_r _ [888, 120, 121, 889, 890, 891, 2, 892, 17, 881, 841, 842, 843, 829, 844, 129, 130, 131, 132, 133, 134, 135, 136, 137, 138, 845, 846, 847, 54, 848, 102, 236, 237, 238, 239, 214, 100, 101, 961, 962, 963, 964, 965, 971, 972, 973, 974, 975, 976, 977, 978, 979, 980, 981, 982, 983, 984, 985, 986, 987, 988, 989, 990, 1017, 1018, 1019, 1020, 1021] (by decide +kernel) (by decide +kernel)) (goodIn_sub (fun _ h => List.mem_append_left _ (List.mem_append_left _ (List.mem_append_right _ h))) (by decide +kernel))) (goodIn_sub (fun _ h => List.mem_append_left _ (List.mem_append_right _ h)) (by decide +kernel))
set_option maxRecDepth 20000 in
theorem gL_law_L_event : GoodIn wsL_law (va_wsS RL 190 yL_event wsL_event) := goodIn_app (goodIn_of _ (by decide +kernel)) ggL_law_L_event
set_option maxRecDepth 20000 in
theorem ggL_law_X10_event : GoodIn wsL_law wsX10_event := goodIn_r _ [896, 853, 854, 855, 5, 856, 107, 257, 250, 251, 252, 253, 254, 255, 256, 966, 967, 968, 969, 970] (by decide +kernel) (by decide +kernel)
set_option maxRecDepth 20000 in
theorem gL_law_X10_event : GoodIn wsL_law (wsV RL 192 RX10 yX10_event wsX10_event) := goodIn_app (goodIn_of _ (by decide +kernel)) ggL_law_X10_event
set_option maxRecDepth 20000 in
theorem ggL_law_L_undo : GoodIn wsL_law wsL_undo := goodIn_ca (goodIn_r _ [899, 665, 900, 901, 902, 2, 903, 143, 17, 18, 19, 20, 674, 675, 676, 677, 678, 961, 962, 963, 964, 965] (by decide +kernel) (by decide +kernel)) (goodIn_sub (fun _ h => List.mem_append_right _ h) (by decide +kernel))
set_option maxRecDepth 20000 in
theorem gL_law_L_undo : GoodIn wsL_law (va_wsS RL 193 yL_undo wsL_undo) := goodIn_app (goodIn_of _ (by decide +kernel)) ggL_law_L_undo
set_option maxRecDepth 20000 in
theorem ggL_law_X10_undo : GoodIn wsL_law wsX10_undo := goodIn_r _ [907, 266, 107, 108, 253, 254, 255, 5, 256, 257, 715, 716, 717, 718, 966, 967, 968, 969, 970] (by decide +kernel) (by decide +kernel)
set_option maxRecDepth 20000 in
theorem gL_law_X10_undo : GoodIn wsL_law (wsV RL 195 RX10 yX10_undo wsX10_undo) := goodIn_app (goodIn_of _ (by decide +kernel)) ggL_law_X10_undo
set_option maxRecDepth 20000 in
theorem ggL_law_X9_digest : GoodIn wsL_law wsX9_digest := goodIn_r _ [911, 17, 912, 143, 913, 914, 2, 915, 916, 917, 918, 919, 16, 920, 31, 154, 155, 156, 39, 527, 43, 921, 55, 56, 57, 922, 923, 924, 925, 152, 35, 926, 927, 928, 929, 153, 430, 217, 218, 219, 27, 28, 29, 30, 930, 931, 932, 26, 933, 63, 163, 62, 65, 934, 935, 936, 34, 937, 72, 73, 461, 462, 463, 464, 423, 465, 466, 467, 468, 69, 469, 455, 146, 456, 470, 471, 472, 473, 396, 474, 475, 476, 477, 478, 479, 480, 938, 776, 777, 778, 157, 158, 506, 47, 524, 939, 940, 941, 54, 942, 215, 101, 943, 846, 847, 848, 102, 236, 237, 238, 239, 214, 100, 961, 962, 963, 964, 965, 971, 972, 973, 974, 975, 976, 977, 978, 979, 980, 981, 982, 983, 984, 985, 986, 987, 988, 989, 990, 1001, 1002, 1003, 1004, 1005, 1006, 1007, 1008, 1009, 997, 998, 999, 1000, 991, 992, 993, 994, 995, 996, 1010, 1011, 1012, 1013, 1017, 1018, 1019, 1020, 1021] (by decide +kernel) (by decide +kernel)
set_option maxRecDepth 20000 in
theorem gL_law_X9_digest : GoodIn wsL_law (wsV RL 196 RX9 yX9_digest wsX9_digest) := goodIn_app (goodIn_of _ (by decide +kernel)) ggL_law_X9_digest
set_option maxRecDepth 20000 in
theorem ggL_law_X10_digest : GoodIn wsL_law wsX10_digest := goodIn_r _ [947, 257, 948, 949, 266, 950, 107, 603, 249, 635, 951, 335, 952, 953, 954, 5, 955, 956, 957, 958, 959, 960, 746, 747, 748, 749, 615, 616, 617, 618, 619, 620, 621, 622, 623, 624, 408, 409, 410, 783, 784, 785, 786, 966, 967, 968, 969, 970] (by decide +kernel) (by decide +kernel)
set_option maxRecDepth 20000 in
theorem gL_law_X10_digest : GoodIn wsL_law (wsV RL 199 RX10 yX10_digest wsX10_digest) := goodIn_app (goodIn_of _ (by decide +kernel)) ggL_law_X10_digest

theorem dX6_copyFrom_57 : decode cX6_copyFrom 57 = .ok (.invokevirtual 87, 3) := by decide +kernel
theorem dX6_copyFrom_60 : decode cX6_copyFrom 60 = .ok (.aload_n 0, 1) := by decide +kernel
theorem dX6_copyFrom_61 : decode cX6_copyFrom 61 = .ok (.aload_n 1, 1) := by decide +kernel
theorem dX6_copyFrom_62 : decode cX6_copyFrom 62 = .ok (.getfield 29, 3) := by decide +kernel
theorem dX6_copyFrom_65 : decode cX6_copyFrom 65 = .ok (.putfield 29, 3) := by decide +kernel
theorem dX6_copyFrom_68 : decode cX6_copyFrom 68 = .ok (.aload_n 0, 1) := by decide +kernel
theorem dX6_copyFrom_69 : decode cX6_copyFrom 69 = .ok (.aload_n 1, 1) := by decide +kernel
theorem dX6_copyFrom_70 : decode cX6_copyFrom 70 = .ok (.getfield 91, 3) := by decide +kernel
theorem dX6_copyFrom_73 : decode cX6_copyFrom 73 = .ok (.putfield 91, 3) := by decide +kernel
theorem dX6_copyFrom_76 : decode cX6_copyFrom 76 = .ok (.aload_n 0, 1) := by decide +kernel
theorem dX6_copyFrom_77 : decode cX6_copyFrom 77 = .ok (.aload_n 1, 1) := by decide +kernel
theorem dX6_copyFrom_78 : decode cX6_copyFrom 78 = .ok (.getfield 94, 3) := by decide +kernel
theorem dX6_copyFrom_81 : decode cX6_copyFrom 81 = .ok (.putfield 94, 3) := by decide +kernel
theorem dX6_copyFrom_84 : decode cX6_copyFrom 84 = .ok (.aload_n 0, 1) := by decide +kernel
theorem dX6_copyFrom_85 : decode cX6_copyFrom 85 = .ok (.getfield 36, 3) := by decide +kernel
theorem dX6_copyFrom_88 : decode cX6_copyFrom 88 = .ok (.aload_n 1, 1) := by decide +kernel
theorem dX6_copyFrom_89 : decode cX6_copyFrom 89 = .ok (.getfield 36, 3) := by decide +kernel
theorem dX6_copyFrom_92 : decode cX6_copyFrom 92 = .ok (.invokevirtual 97, 3) := by decide +kernel
theorem dX6_copyFrom_95 : decode cX6_copyFrom 95 = .ok (.aload_n 0, 1) := by decide +kernel
theorem dX6_copyFrom_96 : decode cX6_copyFrom 96 = .ok (.getfield 43, 3) := by decide +kernel
theorem dX6_copyFrom_99 : decode cX6_copyFrom 99 = .ok (.aload_n 1, 1) := by decide +kernel
theorem dX6_copyFrom_100 : decode cX6_copyFrom 100 = .ok (.getfield 43, 3) := by decide +kernel
theorem dX6_copyFrom_103 : decode cX6_copyFrom 103 = .ok (.invokevirtual 100, 3) := by decide +kernel
theorem dX6_copyFrom_106 : decode cX6_copyFrom 106 = .ok (.aload_n 0, 1) := by decide +kernel
theorem dX6_copyFrom_107 : decode cX6_copyFrom 107 = .ok (.aload_n 1, 1) := by decide +kernel
theorem dX6_copyFrom_108 : decode cX6_copyFrom 108 = .ok (.getfield 103, 3) := by decide +kernel
theorem dX6_copyFrom_111 : decode cX6_copyFrom 111 = .ok (.putfield 103, 3) := by decide +kernel
theorem dX6_copyFrom_114 : decode cX6_copyFrom 114 = .ok (.aload_n 0, 1) := by decide +kernel
theorem dX6_copyFrom_115 : decode cX6_copyFrom 115 = .ok (.aload_n 1, 1) := by decide +kernel
theorem dX6_copyFrom_116 : decode cX6_copyFrom 116 = .ok (.getfield 107, 3) := by decide +kernel
theorem dX6_copyFrom_119 : decode cX6_copyFrom 119 = .ok (.putfield 107, 3) := by decide +kernel
theorem dX6_copyFrom_122 : decode cX6_copyFrom 122 = .ok (.aload_n 0, 1) := by decide +kernel
theorem dX6_copyFrom_123 : decode cX6_copyFrom 123 = .ok (.aload_n 1, 1) := by decide +kernel
theorem dX6_copyFrom_124 : decode cX6_copyFrom 124 = .ok (.getfield 110, 3) := by decide +kernel
theorem dX6_copyFrom_127 : decode cX6_copyFrom 127 = .ok (.putfield 110, 3) := by decide +kernel
theorem dX6_copyFrom_130 : decode cX6_copyFrom 130 = .ok (.aload_n 0, 1) := by decide +kernel
theorem dX6_copyFrom_131 : decode cX6_copyFrom 131 = .ok (.getfield 50, 3) := by decide +kernel
theorem dX6_copyFrom_134 : decode cX6_copyFrom 134 = .ok (.aload_n 1, 1) := by decide +kernel
theorem dX6_copyFrom_135 : decode cX6_copyFrom 135 = .ok (.getfield 50, 3) := by decide +kernel
theorem dX6_copyFrom_138 : decode cX6_copyFrom 138 = .ok (.invokevirtual 113, 3) := by decide +kernel
theorem dX6_copyFrom_141 : decode cX6_copyFrom 141 = .ok (.aload_n 0, 1) := by decide +kernel
theorem dX6_copyFrom_142 : decode cX6_copyFrom 142 = .ok (.getfield 57, 3) := by decide +kernel
theorem dX6_copyFrom_145 : decode cX6_copyFrom 145 = .ok (.aload_n 1, 1) := by decide +kernel
theorem dX6_copyFrom_146 : decode cX6_copyFrom 146 = .ok (.getfield 57, 3) := by decide +kernel
theorem dX6_copyFrom_149 : decode cX6_copyFrom 149 = .ok (.invokevirtual 116, 3) := by decide +kernel
theorem dX6_copyFrom_152 : decode cX6_copyFrom 152 = .ok (.aload_n 0, 1) := by decide +kernel
theorem dX6_copyFrom_153 : decode cX6_copyFrom 153 = .ok (.getfield 64, 3) := by decide +kernel
theorem dX6_copyFrom_156 : decode cX6_copyFrom 156 = .ok (.aload_n 1, 1) := by decide +kernel
theorem dX6_copyFrom_157 : decode cX6_copyFrom 157 = .ok (.getfield 64, 3) := by decide +kernel
theorem dX6_copyFrom_160 : decode cX6_copyFrom 160 = .ok (.invokevirtual 119, 3) := by decide +kernel
theorem dX6_copyFrom_163 : decode cX6_copyFrom 163 = .ok (.aload_n 0, 1) := by decide +kernel
theorem dX6_copyFrom_164 : decode cX6_copyFrom 164 = .ok (.getfield 71, 3) := by decide +kernel
theorem dX6_copyFrom_167 : decode cX6_copyFrom 167 = .ok (.aload_n 1, 1) := by decide +kernel
theorem dX6_copyFrom_168 : decode cX6_copyFrom 168 = .ok (.getfield 71, 3) := by decide +kernel
theorem dX6_copyFrom_171 : decode cX6_copyFrom 171 = .ok (.invokevirtual 122, 3) := by decide +kernel
theorem dX6_copyFrom_174 : decode cX6_copyFrom 174 = .ok (.aload_n 0, 1) := by decide +kernel
theorem dX6_copyFrom_175 : decode cX6_copyFrom 175 = .ok (.getfield 75, 3) := by decide +kernel
theorem dX6_copyFrom_178 : decode cX6_copyFrom 178 = .ok (.aload_n 1, 1) := by decide +kernel
theorem dX6_copyFrom_179 : decode cX6_copyFrom 179 = .ok (.getfield 75, 3) := by decide +kernel
theorem dX6_copyFrom_182 : decode cX6_copyFrom 182 = .ok (.invokevirtual 122, 3) := by decide +kernel
theorem dX6_copyFrom_185 : decode cX6_copyFrom 185 = .ok (.aload_n 0, 1) := by decide +kernel
theorem dX6_copyFrom_186 : decode cX6_copyFrom 186 = .ok (.getfield 78, 3) := by decide +kernel
theorem dX6_copyFrom_189 : decode cX6_copyFrom 189 = .ok (.aload_n 1, 1) := by decide +kernel
theorem dX6_copyFrom_190 : decode cX6_copyFrom 190 = .ok (.getfield 78, 3) := by decide +kernel
theorem dX6_copyFrom_193 : decode cX6_copyFrom 193 = .ok (.invokevirtual 122, 3) := by decide +kernel
theorem dX6_copyFrom_196 : decode cX6_copyFrom 196 = .ok (.return_, 1) := by decide +kernel
theorem dX6_transmitterAt_0 : decode cX6_transmitterAt 0 = .ok (.iload_n 1, 1) := by decide +kernel
theorem dX6_transmitterAt_1 : decode cX6_transmitterAt 1 = .ok (.tableswitch 42 0 2 #[27, 32, 37], 27) := by decide +kernel
theorem dX6_transmitterAt_28 : decode cX6_transmitterAt 28 = .ok (.aload_n 0, 1) := by decide +kernel
theorem dX6_transmitterAt_29 : decode cX6_transmitterAt 29 = .ok (.getfield 14, 3) := by decide +kernel
theorem dX6_transmitterAt_32 : decode cX6_transmitterAt 32 = .ok (.areturn, 1) := by decide +kernel
theorem dX6_transmitterAt_33 : decode cX6_transmitterAt 33 = .ok (.aload_n 0, 1) := by decide +kernel
theorem dX6_transmitterAt_34 : decode cX6_transmitterAt 34 = .ok (.getfield 20, 3) := by decide +kernel
theorem dX6_transmitterAt_37 : decode cX6_transmitterAt 37 = .ok (.areturn, 1) := by decide +kernel
theorem dX6_transmitterAt_38 : decode cX6_transmitterAt 38 = .ok (.aload_n 0, 1) := by decide +kernel
theorem dX6_transmitterAt_39 : decode cX6_transmitterAt 39 = .ok (.getfield 23, 3) := by decide +kernel
theorem dX6_transmitterAt_42 : decode cX6_transmitterAt 42 = .ok (.areturn, 1) := by decide +kernel
theorem dX6_transmitterAt_43 : decode cX6_transmitterAt 43 = .ok (.aload_n 0, 1) := by decide +kernel
theorem dX6_transmitterAt_44 : decode cX6_transmitterAt 44 = .ok (.getfield 26, 3) := by decide +kernel
theorem dX6_transmitterAt_47 : decode cX6_transmitterAt 47 = .ok (.areturn, 1) := by decide +kernel
set_option maxRecDepth 20000 in
theorem ggX6_passSecond_X6_followTransmitter : GoodIn wsX6_passSecond wsX6_followTransmitter := goodIn_r _ [15, 16, 17, 18, 19, 14, 20, 21, 22, 5, 23, 24, 25, 26, 27, 28, 29, 30, 31, 32, 33, 34, 1, 35, 36, 37, 38, 39, 40, 41, 42, 43, 44, 45, 46, 47, 48, 49, 50, 51, 52, 53, 54, 55, 56, 57, 58, 59, 60, 61, 62, 63, 64, 65, 66, 67, 68, 69, 273, 274, 275, 276, 277, 278, 253, 254, 255, 256, 257, 258, 259, 260, 261, 262, 263, 264, 265, 266, 267, 268, 269, 270, 271, 272, 279, 280, 281, 282, 283] (by decide +kernel) (by decide +kernel)
set_option maxRecDepth 20000 in
theorem gX6_passSecond_X6_followTransmitter : GoodIn wsX6_passSecond (wsV RX6 125 RX6 yX6_followTransmitter wsX6_followTransmitter) := goodIn_app (goodIn_of _ (by decide +kernel)) ggX6_passSecond_X6_followTransmitter
set_option maxRecDepth 20000 in
theorem ggX6_passSecond_X6_chooseRange : GoodIn wsX6_passSecond wsX6_chooseRange := goodIn_r _ [73, 74, 75, 76, 77, 14, 78, 21, 22, 6, 79, 24, 25, 26, 27, 28, 29, 80, 67, 68, 69, 30, 31, 32, 33, 34, 1, 35, 36, 37, 38, 39, 40, 41, 42, 43, 44, 45, 46, 47, 48, 49, 50, 51, 52, 253, 254, 255, 256, 257, 258, 259, 260, 261, 262, 263, 264, 265, 266, 267, 268, 269, 270, 271, 272, 273, 274, 275, 276, 277, 278, 279, 280, 281, 282, 283] (by decide +kernel) (by decide +kernel)
set_option maxRecDepth 20000 in
theorem gX6_passSecond_X6_chooseRange : GoodIn wsX6_passSecond (wsV RX6 129 RX6 yX6_chooseRange wsX6_chooseRange) := goodIn_app (goodIn_of _ (by decide +kernel)) ggX6_passSecond_X6_chooseRange
set_option maxRecDepth 20000 in
theorem ggX6_passSecond_X6_measureDifferential : GoodIn wsX6_passSecond wsX6_measureDifferential := goodIn_r _ [84, 21, 22, 85, 74, 6, 86, 87, 88, 89, 4, 24, 25, 26, 27, 28, 29, 90, 91, 92, 14, 93, 30, 31, 32, 33, 34, 1, 35, 36, 37, 38, 39, 40, 41, 42, 43, 44, 45, 46, 47, 48, 49, 50, 51, 52, 253, 254, 255, 256, 257, 258, 259, 260, 261, 262, 263, 264, 265, 266, 267, 268, 269, 270, 271, 272, 273, 274, 275, 276, 277, 278, 279, 280, 281, 282, 283] (by decide +kernel) (by decide +kernel)
set_option maxRecDepth 20000 in
theorem gX6_passSecond_X6_measureDifferential : GoodIn wsX6_passSecond (wsV RX6 132 RX6 yX6_measureDifferential wsX6_measureDifferential) := goodIn_app (goodIn_of _ (by decide +kernel)) ggX6_passSecond_X6_measureDifferential
set_option maxRecDepth 20000 in
theorem ggX6_passSecond_X6_presentDensity : GoodIn wsX6_passSecond wsX6_presentDensity := goodIn_r _ [97, 3, 5, 6, 23, 98, 99, 100, 101, 102, 103, 104, 105, 87, 88, 89, 106, 107, 108, 109, 68, 110, 111, 112, 113, 114, 115, 116, 253, 254, 255, 256, 257, 258, 259, 260, 261, 262, 263, 264, 265, 266, 267, 268, 269, 270, 271, 272, 273, 274, 275, 276, 277, 278, 284, 285, 286, 287] (by decide +kernel) (by decide +kernel)
set_option maxRecDepth 20000 in
theorem gX6_passSecond_X6_presentDensity : GoodIn wsX6_passSecond (wsV RX6 135 RX6 yX6_presentDensity wsX6_presentDensity) := goodIn_app (goodIn_of _ (by decide +kernel)) ggX6_passSecond_X6_presentDensity
set_option maxRecDepth 20000 in
theorem ggX6_passSecond_X3_flowAt : GoodIn wsX6_passSecond wsX3_flowAt := goodIn_r _ [120, 121, 122, 123, 103, 124, 125, 126, 127, 101, 128, 129, 108, 109, 68, 110, 130, 131, 132, 105, 87, 88, 89, 133, 67, 69, 111, 112, 113, 114, 115, 116, 284, 285, 286, 287] (by decide +kernel) (by decide +kernel)
set_option maxRecDepth 20000 in
theorem gX6_passSecond_X3_flowAt : GoodIn wsX6_passSecond (wsV RX6 142 RX3 yX3_flowAt wsX3_flowAt) := goodIn_app (goodIn_of _ (by decide +kernel)) ggX6_passSecond_X3_flowAt
set_option maxRecDepth 20000 in
theorem ggX6_passSecond_X1_passed : GoodIn wsX6_passSecond wsX1_passed := goodIn_r _ [138, 139, 140, 141, 288, 289, 290] (by decide +kernel) (by decide +kernel)
set_option maxRecDepth 20000 in
theorem gX6_passSecond_X1_passed : GoodIn wsX6_passSecond (wsV RX6 146 RX1 yX1_passed wsX1_passed) := goodIn_app (goodIn_of _ (by decide +kernel)) ggX6_passSecond_X1_passed
set_option maxRecDepth 20000 in
theorem ggX6_passSecond_J9_floorDiv_f86c9 : GoodIn wsX6_passSecond wsJ9_floorDiv_f86c9 := goodIn_r _ [110] (by decide +kernel) (by decide +kernel)
set_option maxRecDepth 20000 in
theorem gX6_passSecond_J9_floorDiv_f86c9 : GoodIn wsX6_passSecond (va_wsS RX6 152 yJ9_floorDiv_f86c9 wsJ9_floorDiv_f86c9) := goodIn_app (goodIn_of _ (by decide +kernel)) ggX6_passSecond_J9_floorDiv_f86c9
set_option maxRecDepth 20000 in
theorem ggX6_passSecond_X6_fillBatch : GoodIn wsX6_passSecond wsX6_fillBatch := goodIn_r _ [146, 147, 148, 7, 149, 150, 151, 152, 153, 154, 155, 156, 157, 158, 159, 160, 161, 162, 163, 164, 165, 166, 167, 168, 30, 31, 32, 14, 33, 34, 1, 35, 36, 37, 38, 39, 40, 41, 42, 43, 44, 45, 46, 47, 48, 49, 50, 51, 52, 253, 254, 255, 256, 257, 258, 259, 260, 261, 262, 263, 264, 265, 266, 267, 268, 269, 270, 271, 272, 291, 292, 293, 294, 295, 296, 279, 280, 281, 282, 283] (by decide +kernel) (by decide +kernel)
set_option maxRecDepth 20000 in
theorem gX6_passSecond_X6_fillBatch : GoodIn wsX6_passSecond (wsV RX6 158 RX6 yX6_fillBatch wsX6_fillBatch) := goodIn_app (goodIn_of _ (by decide +kernel)) ggX6_passSecond_X6_fillBatch
set_option maxRecDepth 20000 in
theorem ggX6_passSecond_X6_countInHour : GoodIn wsX6_passSecond wsX6_countInHour := goodIn_r _ [172, 173, 174, 7, 175, 176, 4, 5, 6, 23, 2, 177, 178, 179, 180, 181, 14, 182, 85, 17, 18, 19, 20, 21, 22, 24, 25, 26, 27, 28, 29, 183, 184, 185, 186, 187, 188, 189, 190, 191, 253, 254, 255, 256, 257, 258, 259, 260, 261, 262, 263, 264, 265, 266, 267, 268, 269, 270, 271, 272, 297, 298, 299, 300, 273, 274, 275, 276, 277, 278, 288, 289, 290, 301, 302, 303, 304] (by decide +kernel) (by decide +kernel)
set_option maxRecDepth 20000 in
theorem gX6_passSecond_X6_countInHour : GoodIn wsX6_passSecond (wsV RX6 161 RX6 yX6_countInHour wsX6_countInHour) := goodIn_app (goodIn_of _ (by decide +kernel)) ggX6_passSecond_X6_countInHour
set_option maxRecDepth 20000 in
theorem ggX6_passSecond_X6_endHour : GoodIn wsX6_passSecond wsX6_endHour := goodIn_r _ [195, 196, 173, 1, 197, 198, 199, 200, 14, 201, 202, 174, 178, 203, 204, 205, 206, 175, 207, 208, 209, 210, 211, 212, 213, 214, 35, 36, 37, 38, 39, 40, 41, 42, 43, 44, 45, 46, 47, 48, 49, 50, 51, 52, 215, 216, 217, 186, 218, 188, 219, 109, 68, 110, 220, 221, 222, 223, 224, 225, 226, 227, 228, 229, 230, 231, 232, 233, 234, 235, 236, 237, 238, 239, 240, 189, 190, 191, 241, 242, 243, 244, 245, 246, 247, 248, 249, 250, 251, 252, 253, 254, 255, 256, 257, 258, 259, 260, 261, 262, 263, 264, 265, 266, 267, 268, 269, 270, 271, 272, 297, 298, 299, 300, 301, 302, 303, 304, 279, 280, 281, 282, 283, 305, 306, 307] (by decide +kernel) (by decide +kernel)
set_option maxRecDepth 20000 in
theorem gX6_passSecond_X6_endHour : GoodIn wsX6_passSecond (wsV RX6 164 RX6 yX6_endHour wsX6_endHour) := goodIn_app (goodIn_of _ (by decide +kernel)) ggX6_passSecond_X6_endHour
theorem dX6_passSecond_0 : decode cX6_passSecond 0 = .ok (.aload_n 0, 1) := by decide +kernel
theorem dX6_passSecond_1 : decode cX6_passSecond 1 = .ok (.dup, 1) := by decide +kernel
theorem dX6_passSecond_2 : decode cX6_passSecond 2 = .ok (.getfield 81, 3) := by decide +kernel
theorem dX6_passSecond_5 : decode cX6_passSecond 5 = .ok (.iconst 1, 1) := by decide +kernel
theorem dX6_passSecond_6 : decode cX6_passSecond 6 = .ok (.iadd, 1) := by decide +kernel
theorem dX6_passSecond_7 : decode cX6_passSecond 7 = .ok (.putfield 81, 3) := by decide +kernel
theorem dX6_passSecond_10 : decode cX6_passSecond 10 = .ok (.iconst 0, 1) := by decide +kernel
theorem dX6_passSecond_11 : decode cX6_passSecond 11 = .ok (.istore_n 1, 1) := by decide +kernel
theorem dX6_passSecond_12 : decode cX6_passSecond 12 = .ok (.iload_n 1, 1) := by decide +kernel
theorem dX6_passSecond_13 : decode cX6_passSecond 13 = .ok (.iconst 4, 1) := by decide +kernel
theorem dX6_passSecond_14 : decode cX6_passSecond 14 = .ok (.if_icmp .ge 14, 3) := by decide +kernel
theorem dX6_passSecond_17 : decode cX6_passSecond 17 = .ok (.aload_n 0, 1) := by decide +kernel
theorem dX6_passSecond_18 : decode cX6_passSecond 18 = .ok (.iload_n 1, 1) := by decide +kernel
theorem dX6_passSecond_19 : decode cX6_passSecond 19 = .ok (.invokevirtual 125, 3) := by decide +kernel
theorem dX6_passSecond_22 : decode cX6_passSecond 22 = .ok (.iinc 1 1, 3) := by decide +kernel
theorem dX6_passSecond_25 : decode cX6_passSecond 25 = .ok (.goto (-13), 3) := by decide +kernel
theorem dX6_passSecond_28 : decode cX6_passSecond 28 = .ok (.aload_n 0, 1) := by decide +kernel
theorem dX6_passSecond_29 : decode cX6_passSecond 29 = .ok (.invokevirtual 129, 3) := by decide +kernel
theorem dX6_passSecond_32 : decode cX6_passSecond 32 = .ok (.aload_n 0, 1) := by decide +kernel
theorem dX6_passSecond_33 : decode cX6_passSecond 33 = .ok (.invokevirtual 132, 3) := by decide +kernel
theorem dX6_passSecond_36 : decode cX6_passSecond 36 = .ok (.aload_n 0, 1) := by decide +kernel
theorem dX6_passSecond_37 : decode cX6_passSecond 37 = .ok (.invokevirtual 135, 3) := by decide +kernel
theorem dX6_passSecond_40 : decode cX6_passSecond 40 = .ok (.lstore_n 1, 1) := by decide +kernel
theorem dX6_passSecond_41 : decode cX6_passSecond 41 = .ok (.aload_n 0, 1) := by decide +kernel
theorem dX6_passSecond_42 : decode cX6_passSecond 42 = .ok (.aload_n 0, 1) := by decide +kernel
theorem dX6_passSecond_43 : decode cX6_passSecond 43 = .ok (.getfield 43, 3) := by decide +kernel
theorem dX6_passSecond_46 : decode cX6_passSecond 46 = .ok (.aload_n 0, 1) := by decide +kernel
theorem dX6_passSecond_47 : decode cX6_passSecond 47 = .ok (.getfield 36, 3) := by decide +kernel
theorem dX6_passSecond_50 : decode cX6_passSecond 50 = .ok (.aload_n 0, 1) := by decide +kernel
theorem dX6_passSecond_51 : decode cX6_passSecond 51 = .ok (.getfield 94, 3) := by decide +kernel
theorem dX6_passSecond_54 : decode cX6_passSecond 54 = .ok (.aload_n 0, 1) := by decide +kernel
theorem dX6_passSecond_55 : decode cX6_passSecond 55 = .ok (.getfield 23, 3) := by decide +kernel
theorem dX6_passSecond_58 : decode cX6_passSecond 58 = .ok (.getfield 139, 3) := by decide +kernel
theorem dX6_passSecond_61 : decode cX6_passSecond 61 = .ok (.lload_n 1, 1) := by decide +kernel
theorem dX6_passSecond_62 : decode cX6_passSecond 62 = .ok (.invokevirtual 142, 3) := by decide +kernel
theorem dX6_passSecond_65 : decode cX6_passSecond 65 = .ok (.invokevirtual 146, 3) := by decide +kernel
theorem dX6_passSecond_68 : decode cX6_passSecond 68 = .ok (.putfield 103, 3) := by decide +kernel
theorem dX6_passSecond_71 : decode cX6_passSecond 71 = .ok (.aload_n 0, 1) := by decide +kernel
theorem dX6_passSecond_72 : decode cX6_passSecond 72 = .ok (.dup, 1) := by decide +kernel
theorem dX6_passSecond_73 : decode cX6_passSecond 73 = .ok (.getfield 107, 3) := by decide +kernel
theorem dX6_passSecond_76 : decode cX6_passSecond 76 = .ok (.aload_n 0, 1) := by decide +kernel
theorem dX6_passSecond_77 : decode cX6_passSecond 77 = .ok (.getfield 103, 3) := by decide +kernel
theorem dX6_passSecond_80 : decode cX6_passSecond 80 = .ok (.ladd, 1) := by decide +kernel
theorem dX6_passSecond_81 : decode cX6_passSecond 81 = .ok (.putfield 107, 3) := by decide +kernel
theorem dX6_passSecond_84 : decode cX6_passSecond 84 = .ok (.lload_n 1, 1) := by decide +kernel
theorem dX6_passSecond_85 : decode cX6_passSecond 85 = .ok (.lconst 0, 1) := by decide +kernel
theorem dX6_passSecond_86 : decode cX6_passSecond 86 = .ok (.lcmp, 1) := by decide +kernel
theorem dX6_passSecond_87 : decode cX6_passSecond 87 = .ok (.ifCond .le 24, 3) := by decide +kernel
theorem dX6_passSecond_90 : decode cX6_passSecond 90 = .ok (.aload_n 0, 1) := by decide +kernel
theorem dX6_passSecond_91 : decode cX6_passSecond 91 = .ok (.dup, 1) := by decide +kernel
theorem dX6_passSecond_92 : decode cX6_passSecond 92 = .ok (.getfield 110, 3) := by decide +kernel
theorem dX6_passSecond_95 : decode cX6_passSecond 95 = .ok (.ldc2_w 150, 3) := by decide +kernel
theorem dX6_passSecond_98 : decode cX6_passSecond 98 = .ok (.aload_n 0, 1) := by decide +kernel
theorem dX6_passSecond_99 : decode cX6_passSecond 99 = .ok (.getfield 103, 3) := by decide +kernel
theorem dX6_passSecond_102 : decode cX6_passSecond 102 = .ok (.lmul, 1) := by decide +kernel
theorem dX6_passSecond_103 : decode cX6_passSecond 103 = .ok (.lload_n 1, 1) := by decide +kernel
theorem dX6_passSecond_104 : decode cX6_passSecond 104 = .ok (.invokestatic 152, 3) := by decide +kernel
theorem dX6_passSecond_107 : decode cX6_passSecond 107 = .ok (.ladd, 1) := by decide +kernel
theorem dX6_passSecond_108 : decode cX6_passSecond 108 = .ok (.putfield 110, 3) := by decide +kernel
theorem dX6_passSecond_111 : decode cX6_passSecond 111 = .ok (.aload_n 0, 1) := by decide +kernel
theorem dX6_passSecond_112 : decode cX6_passSecond 112 = .ok (.invokevirtual 158, 3) := by decide +kernel
theorem dX6_passSecond_115 : decode cX6_passSecond 115 = .ok (.aload_n 0, 1) := by decide +kernel
theorem dX6_passSecond_116 : decode cX6_passSecond 116 = .ok (.invokevirtual 161, 3) := by decide +kernel
theorem dX6_passSecond_119 : decode cX6_passSecond 119 = .ok (.aload_n 0, 1) := by decide +kernel
theorem dX6_passSecond_120 : decode cX6_passSecond 120 = .ok (.getfield 81, 3) := by decide +kernel
theorem dX6_passSecond_123 : decode cX6_passSecond 123 = .ok (.sipush 3600, 3) := by decide +kernel
theorem dX6_passSecond_126 : decode cX6_passSecond 126 = .ok (.irem, 1) := by decide +kernel
theorem dX6_passSecond_127 : decode cX6_passSecond 127 = .ok (.ifCond .ne 7, 3) := by decide +kernel
theorem dX6_passSecond_130 : decode cX6_passSecond 130 = .ok (.aload_n 0, 1) := by decide +kernel
theorem dX6_passSecond_131 : decode cX6_passSecond 131 = .ok (.invokevirtual 164, 3) := by decide +kernel
theorem dX6_passSecond_134 : decode cX6_passSecond 134 = .ok (.return_, 1) := by decide +kernel
set_option maxRecDepth 20000 in
theorem ggX6_followTransmitter_X6_transmitterAt : GoodIn wsX6_followTransmitter wsX6_transmitterAt := goodIn_r _ [6, 7, 8, 9, 10, 64, 65, 66, 67, 68, 69, 70, 71, 72, 73, 74, 75, 76, 77, 78, 79, 80, 81, 82, 83] (by decide +kernel) (by decide +kernel)
set_option maxRecDepth 20000 in
theorem gX6_followTransmitter_X6_transmitterAt : GoodIn wsX6_followTransmitter (wsV RX6 167 RX6 yX6_transmitterAt wsX6_transmitterAt) := goodIn_app (goodIn_of _ (by decide +kernel)) ggX6_followTransmitter_X6_transmitterAt
set_option maxRecDepth 20000 in
theorem ggX6_followTransmitter_X8_isFaulty : GoodIn wsX6_followTransmitter wsX8_isFaulty := goodIn_r _ [15, 16, 58, 59, 60, 61, 62, 63] (by decide +kernel) (by decide +kernel)
set_option maxRecDepth 20000 in
theorem gX6_followTransmitter_X8_isFaulty : GoodIn wsX6_followTransmitter (wsV RX6 171 RX8 yX8_isFaulty wsX8_isFaulty) := goodIn_app (goodIn_of _ (by decide +kernel)) ggX6_followTransmitter_X8_isFaulty
set_option maxRecDepth 20000 in
theorem ggX6_followTransmitter_X6_log : GoodIn wsX6_followTransmitter wsX6_log := goodIn_r _ [20, 21, 22, 23, 24, 25, 26, 27, 28, 29, 30, 31, 32, 33, 34, 35, 36, 37, 38, 39, 40, 64, 65, 66, 67, 68, 69, 70, 71, 72, 73, 74, 75, 76, 77, 78, 79, 80, 81, 82, 83, 84, 85, 86, 87, 88] (by decide +kernel) (by decide +kernel)
set_option maxRecDepth 20000 in
theorem gX6_followTransmitter_X6_log : GoodIn wsX6_followTransmitter (wsV RX6 179 RX6 yX6_log wsX6_log) := goodIn_app (goodIn_of _ (by decide +kernel)) ggX6_followTransmitter_X6_log
set_option maxRecDepth 20000 in
theorem ggX6_followTransmitter_X8_filter : GoodIn wsX6_followTransmitter wsX8_filter := goodIn_r _ [44, 45, 46, 47, 48, 49, 14, 50, 51, 52, 16, 53, 54, 55, 56, 57, 58, 59, 60, 61, 62, 63] (by decide +kernel) (by decide +kernel)
set_option maxRecDepth 20000 in
theorem gX6_followTransmitter_X8_filter : GoodIn wsX6_followTransmitter (wsV RX6 183 RX8 yX8_filter wsX8_filter) := goodIn_app (goodIn_of _ (by decide +kernel)) ggX6_followTransmitter_X8_filter
theorem dX6_followTransmitter_0 : decode cX6_followTransmitter 0 = .ok (.aload_n 0, 1) := by decide +kernel
theorem dX6_followTransmitter_1 : decode cX6_followTransmitter 1 = .ok (.iload_n 1, 1) := by decide +kernel
theorem dX6_followTransmitter_2 : decode cX6_followTransmitter 2 = .ok (.invokevirtual 167, 3) := by decide +kernel
theorem dX6_followTransmitter_5 : decode cX6_followTransmitter 5 = .ok (.astore_n 2, 1) := by decide +kernel
theorem dX6_followTransmitter_6 : decode cX6_followTransmitter 6 = .ok (.aload_n 2, 1) := by decide +kernel
theorem dX6_followTransmitter_7 : decode cX6_followTransmitter 7 = .ok (.invokevirtual 171, 3) := by decide +kernel
theorem dX6_followTransmitter_10 : decode cX6_followTransmitter 10 = .ok (.istore_n 3, 1) := by decide +kernel
theorem dX6_followTransmitter_11 : decode cX6_followTransmitter 11 = .ok (.iload_n 3, 1) := by decide +kernel
theorem dX6_followTransmitter_12 : decode cX6_followTransmitter 12 = .ok (.aload_n 2, 1) := by decide +kernel
theorem dX6_followTransmitter_13 : decode cX6_followTransmitter 13 = .ok (.getfield 175, 3) := by decide +kernel
theorem dX6_followTransmitter_16 : decode cX6_followTransmitter 16 = .ok (.if_icmp .eq 18, 3) := by decide +kernel
theorem dX6_followTransmitter_19 : decode cX6_followTransmitter 19 = .ok (.aload_n 0, 1) := by decide +kernel
theorem dX6_followTransmitter_20 : decode cX6_followTransmitter 20 = .ok (.iload_n 3, 1) := by decide +kernel
theorem dX6_followTransmitter_21 : decode cX6_followTransmitter 21 = .ok (.ifCond .eq 7, 3) := by decide +kernel
theorem dX6_followTransmitter_24 : decode cX6_followTransmitter 24 = .ok (.iconst 0, 1) := by decide +kernel
theorem dX6_followTransmitter_25 : decode cX6_followTransmitter 25 = .ok (.goto 4, 3) := by decide +kernel
theorem dX6_followTransmitter_28 : decode cX6_followTransmitter 28 = .ok (.iconst 1, 1) := by decide +kernel
theorem dX6_followTransmitter_29 : decode cX6_followTransmitter 29 = .ok (.iload_n 1, 1) := by decide +kernel
theorem dX6_followTransmitter_30 : decode cX6_followTransmitter 30 = .ok (.i2l, 1) := by decide +kernel
theorem dX6_followTransmitter_31 : decode cX6_followTransmitter 31 = .ok (.invokevirtual 179, 3) := by decide +kernel
theorem dX6_followTransmitter_34 : decode cX6_followTransmitter 34 = .ok (.aload_n 2, 1) := by decide +kernel
theorem dX6_followTransmitter_35 : decode cX6_followTransmitter 35 = .ok (.iload_n 3, 1) := by decide +kernel
theorem dX6_followTransmitter_36 : decode cX6_followTransmitter 36 = .ok (.putfield 175, 3) := by decide +kernel
theorem dX6_followTransmitter_39 : decode cX6_followTransmitter 39 = .ok (.iload_n 3, 1) := by decide +kernel
theorem dX6_followTransmitter_40 : decode cX6_followTransmitter 40 = .ok (.ifCond .ne 7, 3) := by decide +kernel
theorem dX6_followTransmitter_43 : decode cX6_followTransmitter 43 = .ok (.aload_n 2, 1) := by decide +kernel
theorem dX6_followTransmitter_44 : decode cX6_followTransmitter 44 = .ok (.invokevirtual 183, 3) := by decide +kernel
theorem dX6_followTransmitter_47 : decode cX6_followTransmitter 47 = .ok (.return_, 1) := by decide +kernel
set_option maxRecDepth 20000 in
theorem ggX6_chooseRange_X6_chosenRange : GoodIn wsX6_chooseRange wsX6_chosenRange := goodIn_r _ [6, 7, 8, 1, 9, 10, 11, 12, 13, 14, 15, 16, 17, 18, 19, 20, 45, 46, 47, 48, 49, 50, 51, 52, 53, 54, 55, 56, 57, 58, 59, 60, 61, 62, 63, 64, 65, 66, 67, 68, 69, 70] (by decide +kernel) (by decide +kernel)
set_option maxRecDepth 20000 in
theorem gX6_chooseRange_X6_chosenRange : GoodIn wsX6_chooseRange (wsV RX6 186 RX6 yX6_chosenRange wsX6_chosenRange) := goodIn_app (goodIn_of _ (by decide +kernel)) ggX6_chooseRange_X6_chosenRange
set_option maxRecDepth 20000 in
theorem ggX6_chooseRange_X6_log : GoodIn wsX6_chooseRange wsX6_log := goodIn_r _ [24, 25, 26, 27, 28, 29, 30, 31, 32, 33, 34, 35, 36, 37, 38, 39, 40, 41, 42, 43, 44, 45, 46, 47, 48, 49, 50, 51, 52, 53, 54, 55, 56, 57, 58, 59, 60, 61, 62, 63, 64, 71, 72, 73, 74, 75] (by decide +kernel) (by decide +kernel)
set_option maxRecDepth 20000 in
theorem gX6_chooseRange_X6_log : GoodIn wsX6_chooseRange (wsV RX6 179 RX6 yX6_log wsX6_log) := goodIn_app (goodIn_of _ (by decide +kernel)) ggX6_chooseRange_X6_log
theorem dX6_chooseRange_0 : decode cX6_chooseRange 0 = .ok (.aload_n 0, 1) := by decide +kernel
theorem dX6_chooseRange_1 : decode cX6_chooseRange 1 = .ok (.invokevirtual 186, 3) := by decide +kernel
theorem dX6_chooseRange_4 : decode cX6_chooseRange 4 = .ok (.istore_n 1, 1) := by decide +kernel
theorem dX6_chooseRange_5 : decode cX6_chooseRange 5 = .ok (.iload_n 1, 1) := by decide +kernel
theorem dX6_chooseRange_6 : decode cX6_chooseRange 6 = .ok (.aload_n 0, 1) := by decide +kernel
theorem dX6_chooseRange_7 : decode cX6_chooseRange 7 = .ok (.getfield 29, 3) := by decide +kernel
theorem dX6_chooseRange_10 : decode cX6_chooseRange 10 = .ok (.if_icmp .eq 15, 3) := by decide +kernel
theorem dX6_chooseRange_13 : decode cX6_chooseRange 13 = .ok (.aload_n 0, 1) := by decide +kernel
theorem dX6_chooseRange_14 : decode cX6_chooseRange 14 = .ok (.iload_n 1, 1) := by decide +kernel
theorem dX6_chooseRange_15 : decode cX6_chooseRange 15 = .ok (.putfield 29, 3) := by decide +kernel
theorem dX6_chooseRange_18 : decode cX6_chooseRange 18 = .ok (.aload_n 0, 1) := by decide +kernel
theorem dX6_chooseRange_19 : decode cX6_chooseRange 19 = .ok (.iconst 2, 1) := by decide +kernel
theorem dX6_chooseRange_20 : decode cX6_chooseRange 20 = .ok (.iload_n 1, 1) := by decide +kernel
theorem dX6_chooseRange_21 : decode cX6_chooseRange 21 = .ok (.i2l, 1) := by decide +kernel
theorem dX6_chooseRange_22 : decode cX6_chooseRange 22 = .ok (.invokevirtual 179, 3) := by decide +kernel
theorem dX6_chooseRange_25 : decode cX6_chooseRange 25 = .ok (.return_, 1) := by decide +kernel
set_option maxRecDepth 20000 in
theorem ggX6_chosenRange_X8_isFaulty : GoodIn wsX6_chosenRange wsX8_isFaulty := goodIn_r _ [10, 11, 36, 37, 38, 39, 40, 41] (by decide +kernel) (by decide +kernel)
set_option maxRecDepth 20000 in
theorem gX6_chosenRange_X8_isFaulty : GoodIn wsX6_chosenRange (wsV RX6 171 RX8 yX8_isFaulty wsX8_isFaulty) := goodIn_app (goodIn_of _ (by decide +kernel)) ggX6_chosenRange_X8_isFaulty
set_option maxRecDepth 20000 in
theorem ggX6_chosenRange_J9_floorDiv_7cf53 : GoodIn wsX6_chosenRange wsJ9_floorDiv_7cf53 := goodIn_r _ [15] (by decide +kernel) (by decide +kernel)
set_option maxRecDepth 20000 in
theorem gX6_chosenRange_J9_floorDiv_7cf53 : GoodIn wsX6_chosenRange (va_wsS RX6 193 yJ9_floorDiv_7cf53 wsJ9_floorDiv_7cf53) := goodIn_app (goodIn_of _ (by decide +kernel)) ggX6_chosenRange_J9_floorDiv_7cf53
theorem dX6_chosenRange_0 : decode cX6_chosenRange 0 = .ok (.aload_n 0, 1) := by decide +kernel
theorem dX6_chosenRange_1 : decode cX6_chosenRange 1 = .ok (.getfield 14, 3) := by decide +kernel
theorem dX6_chosenRange_4 : decode cX6_chosenRange 4 = .ok (.invokevirtual 171, 3) := by decide +kernel
theorem dX6_chosenRange_7 : decode cX6_chosenRange 7 = .ok (.istore_n 1, 1) := by decide +kernel
theorem dX6_chosenRange_8 : decode cX6_chosenRange 8 = .ok (.aload_n 0, 1) := by decide +kernel
theorem dX6_chosenRange_9 : decode cX6_chosenRange 9 = .ok (.getfield 20, 3) := by decide +kernel
theorem dX6_chosenRange_12 : decode cX6_chosenRange 12 = .ok (.invokevirtual 171, 3) := by decide +kernel
theorem dX6_chosenRange_15 : decode cX6_chosenRange 15 = .ok (.istore_n 2, 1) := by decide +kernel
theorem dX6_chosenRange_16 : decode cX6_chosenRange 16 = .ok (.iload_n 1, 1) := by decide +kernel
theorem dX6_chosenRange_17 : decode cX6_chosenRange 17 = .ok (.ifCond .eq 12, 3) := by decide +kernel
theorem dX6_chosenRange_20 : decode cX6_chosenRange 20 = .ok (.iload_n 2, 1) := by decide +kernel
theorem dX6_chosenRange_21 : decode cX6_chosenRange 21 = .ok (.ifCond .eq 8, 3) := by decide +kernel
theorem dX6_chosenRange_24 : decode cX6_chosenRange 24 = .ok (.aload_n 0, 1) := by decide +kernel
theorem dX6_chosenRange_25 : decode cX6_chosenRange 25 = .ok (.getfield 29, 3) := by decide +kernel
theorem dX6_chosenRange_28 : decode cX6_chosenRange 28 = .ok (.ireturn, 1) := by decide +kernel
theorem dX6_chosenRange_29 : decode cX6_chosenRange 29 = .ok (.iload_n 1, 1) := by decide +kernel
theorem dX6_chosenRange_30 : decode cX6_chosenRange 30 = .ok (.ifCond .eq 5, 3) := by decide +kernel
theorem dX6_chosenRange_33 : decode cX6_chosenRange 33 = .ok (.iconst 1, 1) := by decide +kernel
theorem dX6_chosenRange_34 : decode cX6_chosenRange 34 = .ok (.ireturn, 1) := by decide +kernel
theorem dX6_chosenRange_35 : decode cX6_chosenRange 35 = .ok (.iload_n 2, 1) := by decide +kernel
theorem dX6_chosenRange_36 : decode cX6_chosenRange 36 = .ok (.ifCond .eq 5, 3) := by decide +kernel
theorem dX6_chosenRange_39 : decode cX6_chosenRange 39 = .ok (.iconst 0, 1) := by decide +kernel
theorem dX6_chosenRange_40 : decode cX6_chosenRange 40 = .ok (.ireturn, 1) := by decide +kernel
theorem dX6_chosenRange_41 : decode cX6_chosenRange 41 = .ok (.aload_n 0, 1) := by decide +kernel
theorem dX6_chosenRange_42 : decode cX6_chosenRange 42 = .ok (.getfield 29, 3) := by decide +kernel
theorem dX6_chosenRange_45 : decode cX6_chosenRange 45 = .ok (.ifCond .ne 34, 3) := by decide +kernel
theorem dX6_chosenRange_48 : decode cX6_chosenRange 48 = .ok (.aload_n 0, 1) := by decide +kernel
theorem dX6_chosenRange_49 : decode cX6_chosenRange 49 = .ok (.getfield 14, 3) := by decide +kernel
theorem dX6_chosenRange_52 : decode cX6_chosenRange 52 = .ok (.getfield 139, 3) := by decide +kernel
theorem dX6_chosenRange_55 : decode cX6_chosenRange 55 = .ok (.bipush 95, 2) := by decide +kernel
theorem dX6_chosenRange_57 : decode cX6_chosenRange 57 = .ok (.aload_n 0, 1) := by decide +kernel
theorem dX6_chosenRange_58 : decode cX6_chosenRange 58 = .ok (.getfield 14, 3) := by decide +kernel
theorem dX6_chosenRange_61 : decode cX6_chosenRange 61 = .ok (.getfield 190, 3) := by decide +kernel
theorem dX6_chosenRange_64 : decode cX6_chosenRange 64 = .ok (.imul, 1) := by decide +kernel
theorem dX6_chosenRange_65 : decode cX6_chosenRange 65 = .ok (.bipush 100, 2) := by decide +kernel
theorem dX6_chosenRange_67 : decode cX6_chosenRange 67 = .ok (.invokestatic 193, 3) := by decide +kernel
theorem dX6_chosenRange_70 : decode cX6_chosenRange 70 = .ok (.if_icmp .lt 7, 3) := by decide +kernel
theorem dX6_chosenRange_73 : decode cX6_chosenRange 73 = .ok (.iconst 1, 1) := by decide +kernel
theorem dX6_chosenRange_74 : decode cX6_chosenRange 74 = .ok (.goto 4, 3) := by decide +kernel
theorem dX6_chosenRange_77 : decode cX6_chosenRange 77 = .ok (.iconst 0, 1) := by decide +kernel
theorem dX6_chosenRange_78 : decode cX6_chosenRange 78 = .ok (.ireturn, 1) := by decide +kernel
theorem dX6_chosenRange_79 : decode cX6_chosenRange 79 = .ok (.aload_n 0, 1) := by decide +kernel
theorem dX6_chosenRange_80 : decode cX6_chosenRange 80 = .ok (.getfield 20, 3) := by decide +kernel
theorem dX6_chosenRange_83 : decode cX6_chosenRange 83 = .ok (.getfield 139, 3) := by decide +kernel
theorem dX6_chosenRange_86 : decode cX6_chosenRange 86 = .ok (.bipush 90, 2) := by decide +kernel
theorem dX6_chosenRange_88 : decode cX6_chosenRange 88 = .ok (.aload_n 0, 1) := by decide +kernel
theorem dX6_chosenRange_89 : decode cX6_chosenRange 89 = .ok (.getfield 14, 3) := by decide +kernel
theorem dX6_chosenRange_92 : decode cX6_chosenRange 92 = .ok (.getfield 190, 3) := by decide +kernel
theorem dX6_chosenRange_95 : decode cX6_chosenRange 95 = .ok (.imul, 1) := by decide +kernel
theorem dX6_chosenRange_96 : decode cX6_chosenRange 96 = .ok (.bipush 100, 2) := by decide +kernel
theorem dX6_chosenRange_98 : decode cX6_chosenRange 98 = .ok (.invokestatic 193, 3) := by decide +kernel
theorem dX6_chosenRange_101 : decode cX6_chosenRange 101 = .ok (.if_icmp .ge 7, 3) := by decide +kernel
theorem dX6_chosenRange_104 : decode cX6_chosenRange 104 = .ok (.iconst 0, 1) := by decide +kernel
theorem dX6_chosenRange_105 : decode cX6_chosenRange 105 = .ok (.goto 4, 3) := by decide +kernel
theorem dX6_chosenRange_108 : decode cX6_chosenRange 108 = .ok (.iconst 1, 1) := by decide +kernel
theorem dX6_chosenRange_109 : decode cX6_chosenRange 109 = .ok (.ireturn, 1) := by decide +kernel
set_option maxRecDepth 20000 in
theorem ggX6_measureDifferential_X8_isFaulty : GoodIn wsX6_measureDifferential wsX8_isFaulty := goodIn_r _ [15, 16, 66, 67, 68, 69, 70, 71] (by decide +kernel) (by decide +kernel)
set_option maxRecDepth 20000 in
theorem gX6_measureDifferential_X8_isFaulty : GoodIn wsX6_measureDifferential (wsV RX6 171 RX8 yX8_isFaulty wsX8_isFaulty) := goodIn_app (goodIn_of _ (by decide +kernel)) ggX6_measureDifferential_X8_isFaulty
set_option maxRecDepth 20000 in
theorem ggX6_measureDifferential_X6_hold : GoodIn wsX6_measureDifferential wsX6_hold := goodIn_r _ [21, 3, 10, 22, 23, 24, 20, 25, 26, 27, 28, 29, 30, 31, 32, 33, 34, 35, 36, 37, 38, 39, 40, 41, 42, 43, 44, 45, 46, 47, 48, 49, 50, 51, 52, 53, 54, 55, 56, 57, 58, 59, 60, 61, 62, 63, 64, 65, 72, 73, 74, 75, 76] (by decide +kernel) (by decide +kernel)
set_option maxRecDepth 20000 in
theorem gX6_measureDifferential_X6_hold : GoodIn wsX6_measureDifferential (wsV RX6 196 RX6 yX6_hold wsX6_hold) := goodIn_app (goodIn_of _ (by decide +kernel)) ggX6_measureDifferential_X6_hold
theorem dX6_measureDifferential_0 : decode cX6_measureDifferential 0 = .ok (.aload_n 0, 1) := by decide +kernel
theorem dX6_measureDifferential_1 : decode cX6_measureDifferential 1 = .ok (.getfield 14, 3) := by decide +kernel
theorem dX6_measureDifferential_4 : decode cX6_measureDifferential 4 = .ok (.invokevirtual 171, 3) := by decide +kernel
theorem dX6_measureDifferential_7 : decode cX6_measureDifferential 7 = .ok (.ifCond .eq 20, 3) := by decide +kernel
theorem dX6_measureDifferential_10 : decode cX6_measureDifferential 10 = .ok (.aload_n 0, 1) := by decide +kernel
theorem dX6_measureDifferential_11 : decode cX6_measureDifferential 11 = .ok (.getfield 20, 3) := by decide +kernel
theorem dX6_measureDifferential_14 : decode cX6_measureDifferential 14 = .ok (.invokevirtual 171, 3) := by decide +kernel
theorem dX6_measureDifferential_17 : decode cX6_measureDifferential 17 = .ok (.ifCond .eq 10, 3) := by decide +kernel
theorem dX6_measureDifferential_20 : decode cX6_measureDifferential 20 = .ok (.aload_n 0, 1) := by decide +kernel
theorem dX6_measureDifferential_21 : decode cX6_measureDifferential 21 = .ok (.invokevirtual 196, 3) := by decide +kernel
theorem dX6_measureDifferential_24 : decode cX6_measureDifferential 24 = .ok (.goto 40, 3) := by decide +kernel
theorem dX6_measureDifferential_27 : decode cX6_measureDifferential 27 = .ok (.aload_n 0, 1) := by decide +kernel
theorem dX6_measureDifferential_28 : decode cX6_measureDifferential 28 = .ok (.iconst 0, 1) := by decide +kernel
theorem dX6_measureDifferential_29 : decode cX6_measureDifferential 29 = .ok (.putfield 91, 3) := by decide +kernel
theorem dX6_measureDifferential_32 : decode cX6_measureDifferential 32 = .ok (.aload_n 0, 1) := by decide +kernel
theorem dX6_measureDifferential_33 : decode cX6_measureDifferential 33 = .ok (.iconst 0, 1) := by decide +kernel
theorem dX6_measureDifferential_34 : decode cX6_measureDifferential 34 = .ok (.aload_n 0, 1) := by decide +kernel
theorem dX6_measureDifferential_35 : decode cX6_measureDifferential 35 = .ok (.getfield 29, 3) := by decide +kernel
theorem dX6_measureDifferential_38 : decode cX6_measureDifferential 38 = .ok (.ifCond .ne 13, 3) := by decide +kernel
theorem dX6_measureDifferential_41 : decode cX6_measureDifferential 41 = .ok (.aload_n 0, 1) := by decide +kernel
theorem dX6_measureDifferential_42 : decode cX6_measureDifferential 42 = .ok (.getfield 14, 3) := by decide +kernel
theorem dX6_measureDifferential_45 : decode cX6_measureDifferential 45 = .ok (.getfield 139, 3) := by decide +kernel
theorem dX6_measureDifferential_48 : decode cX6_measureDifferential 48 = .ok (.goto 10, 3) := by decide +kernel
theorem dX6_measureDifferential_51 : decode cX6_measureDifferential 51 = .ok (.aload_n 0, 1) := by decide +kernel
theorem dX6_measureDifferential_52 : decode cX6_measureDifferential 52 = .ok (.getfield 20, 3) := by decide +kernel
theorem dX6_measureDifferential_55 : decode cX6_measureDifferential 55 = .ok (.getfield 139, 3) := by decide +kernel
theorem dX6_measureDifferential_58 : decode cX6_measureDifferential 58 = .ok (.invokestatic 199, 3) := by decide +kernel
theorem dX6_measureDifferential_61 : decode cX6_measureDifferential 61 = .ok (.putfield 94, 3) := by decide +kernel
theorem dX6_measureDifferential_64 : decode cX6_measureDifferential 64 = .ok (.return_, 1) := by decide +kernel
set_option maxRecDepth 20000 in
theorem ggX6_hold_X6_log : GoodIn wsX6_hold wsX6_log := goodIn_r _ [7, 8, 9, 10, 11, 12, 13, 14, 15, 16, 17, 18, 19, 20, 21, 22, 23, 24, 25, 26, 27, 28, 29, 30, 31, 32, 33, 34, 35, 36, 37, 38, 39, 40, 41, 42, 43, 44, 45, 46, 47, 48, 49, 50, 51, 52] (by decide +kernel) (by decide +kernel)
set_option maxRecDepth 20000 in
theorem gX6_hold_X6_log : GoodIn wsX6_hold (wsV RX6 179 RX6 yX6_log wsX6_log) := goodIn_app (goodIn_of _ (by decide +kernel)) ggX6_hold_X6_log
theorem dX6_hold_0 : decode cX6_hold 0 = .ok (.aload_n 0, 1) := by decide +kernel
theorem dX6_hold_1 : decode cX6_hold 1 = .ok (.dup, 1) := by decide +kernel
theorem dX6_hold_2 : decode cX6_hold 2 = .ok (.getfield 91, 3) := by decide +kernel
theorem dX6_hold_5 : decode cX6_hold 5 = .ok (.iconst 1, 1) := by decide +kernel
theorem dX6_hold_6 : decode cX6_hold 6 = .ok (.iadd, 1) := by decide +kernel
theorem dX6_hold_7 : decode cX6_hold 7 = .ok (.putfield 91, 3) := by decide +kernel
theorem dX6_hold_10 : decode cX6_hold 10 = .ok (.aload_n 0, 1) := by decide +kernel
theorem dX6_hold_11 : decode cX6_hold 11 = .ok (.getfield 91, 3) := by decide +kernel
theorem dX6_hold_14 : decode cX6_hold 14 = .ok (.bipush 11, 2) := by decide +kernel
theorem dX6_hold_16 : decode cX6_hold 16 = .ok (.if_icmp .ne 9, 3) := by decide +kernel
theorem dX6_hold_19 : decode cX6_hold 19 = .ok (.aload_n 0, 1) := by decide +kernel
theorem dX6_hold_20 : decode cX6_hold 20 = .ok (.iconst 3, 1) := by decide +kernel
theorem dX6_hold_21 : decode cX6_hold 21 = .ok (.lconst 0, 1) := by decide +kernel
theorem dX6_hold_22 : decode cX6_hold 22 = .ok (.invokevirtual 179, 3) := by decide +kernel
theorem dX6_hold_25 : decode cX6_hold 25 = .ok (.aload_n 0, 1) := by decide +kernel
theorem dX6_hold_26 : decode cX6_hold 26 = .ok (.getfield 91, 3) := by decide +kernel
theorem dX6_hold_29 : decode cX6_hold 29 = .ok (.bipush 11, 2) := by decide +kernel
theorem dX6_hold_31 : decode cX6_hold 31 = .ok (.if_icmp .lt 8, 3) := by decide +kernel
theorem dX6_hold_34 : decode cX6_hold 34 = .ok (.aload_n 0, 1) := by decide +kernel
theorem dX6_hold_35 : decode cX6_hold 35 = .ok (.iconst 0, 1) := by decide +kernel
theorem dX6_hold_36 : decode cX6_hold 36 = .ok (.putfield 94, 3) := by decide +kernel
theorem dX6_hold_39 : decode cX6_hold 39 = .ok (.return_, 1) := by decide +kernel
set_option maxRecDepth 20000 in
theorem ggX6_fillBatch_X0_fill : GoodIn wsX6_fillBatch wsX0_fill := goodIn_r _ [10, 11, 12, 13, 14, 15, 9, 16, 17, 18, 19, 20, 21, 22, 23, 69, 70, 71, 72, 73, 74] (by decide +kernel) (by decide +kernel)
set_option maxRecDepth 20000 in
theorem gX6_fillBatch_X0_fill : GoodIn wsX6_fillBatch (wsV RX6 205 RX0 yX0_fill wsX0_fill) := goodIn_app (goodIn_of _ (by decide +kernel)) ggX6_fillBatch_X0_fill
set_option maxRecDepth 20000 in
theorem ggX6_fillBatch_X6_log : GoodIn wsX6_fillBatch wsX6_log := goodIn_r _ [28, 29, 30, 31, 32, 33, 34, 35, 36, 37, 38, 39, 40, 41, 42, 43, 44, 45, 46, 47, 48, 49, 50, 51, 52, 53, 54, 55, 56, 57, 58, 59, 60, 61, 62, 63, 64, 65, 66, 67, 68, 75, 76, 77, 78, 79] (by decide +kernel) (by decide +kernel)
set_option maxRecDepth 20000 in
theorem gX6_fillBatch_X6_log : GoodIn wsX6_fillBatch (wsV RX6 179 RX6 yX6_log wsX6_log) := goodIn_app (goodIn_of _ (by decide +kernel)) ggX6_fillBatch_X6_log
theorem dX6_fillBatch_0 : decode cX6_fillBatch 0 = .ok (.aload_n 0, 1) := by decide +kernel
theorem dX6_fillBatch_1 : decode cX6_fillBatch 1 = .ok (.getfield 50, 3) := by decide +kernel
theorem dX6_fillBatch_4 : decode cX6_fillBatch 4 = .ok (.getfield 202, 3) := by decide +kernel
theorem dX6_fillBatch_7 : decode cX6_fillBatch 7 = .ok (.ifCond .eq 45, 3) := by decide +kernel
theorem dX6_fillBatch_10 : decode cX6_fillBatch 10 = .ok (.aload_n 0, 1) := by decide +kernel
theorem dX6_fillBatch_11 : decode cX6_fillBatch 11 = .ok (.getfield 50, 3) := by decide +kernel
theorem dX6_fillBatch_14 : decode cX6_fillBatch 14 = .ok (.aload_n 0, 1) := by decide +kernel
theorem dX6_fillBatch_15 : decode cX6_fillBatch 15 = .ok (.getfield 103, 3) := by decide +kernel
theorem dX6_fillBatch_18 : decode cX6_fillBatch 18 = .ok (.invokevirtual 205, 3) := by decide +kernel
theorem dX6_fillBatch_21 : decode cX6_fillBatch 21 = .ok (.aload_n 0, 1) := by decide +kernel
theorem dX6_fillBatch_22 : decode cX6_fillBatch 22 = .ok (.getfield 50, 3) := by decide +kernel
theorem dX6_fillBatch_25 : decode cX6_fillBatch 25 = .ok (.getfield 202, 3) := by decide +kernel
theorem dX6_fillBatch_28 : decode cX6_fillBatch 28 = .ok (.ifCond .ne 24, 3) := by decide +kernel
theorem dX6_fillBatch_31 : decode cX6_fillBatch 31 = .ok (.aload_n 0, 1) := by decide +kernel
theorem dX6_fillBatch_32 : decode cX6_fillBatch 32 = .ok (.iconst 4, 1) := by decide +kernel
theorem dX6_fillBatch_33 : decode cX6_fillBatch 33 = .ok (.aload_n 0, 1) := by decide +kernel
theorem dX6_fillBatch_34 : decode cX6_fillBatch 34 = .ok (.getfield 50, 3) := by decide +kernel
theorem dX6_fillBatch_37 : decode cX6_fillBatch 37 = .ok (.getfield 209, 3) := by decide +kernel
theorem dX6_fillBatch_40 : decode cX6_fillBatch 40 = .ok (.aload_n 0, 1) := by decide +kernel
theorem dX6_fillBatch_41 : decode cX6_fillBatch 41 = .ok (.getfield 50, 3) := by decide +kernel
theorem dX6_fillBatch_44 : decode cX6_fillBatch 44 = .ok (.getfield 210, 3) := by decide +kernel
theorem dX6_fillBatch_47 : decode cX6_fillBatch 47 = .ok (.i2l, 1) := by decide +kernel
theorem dX6_fillBatch_48 : decode cX6_fillBatch 48 = .ok (.lsub, 1) := by decide +kernel
theorem dX6_fillBatch_49 : decode cX6_fillBatch 49 = .ok (.invokevirtual 179, 3) := by decide +kernel
theorem dX6_fillBatch_52 : decode cX6_fillBatch 52 = .ok (.return_, 1) := by decide +kernel
set_option maxRecDepth 20000 in
theorem ggX6_countInHour_X6_presentAlarms : GoodIn wsX6_countInHour wsX6_presentAlarms := goodIn_r _ [17, 18, 19, 20, 21, 16, 22, 23, 24, 7, 9, 25, 26, 27, 28, 29, 30, 40, 41, 42, 43, 44, 45, 46, 47, 48, 49, 50, 51, 52, 53, 54, 55, 56, 57, 58, 59, 64, 65, 66, 67, 68, 69] (by decide +kernel) (by decide +kernel)
set_option maxRecDepth 20000 in
theorem gX6_countInHour_X6_presentAlarms : GoodIn wsX6_countInHour (wsV RX6 217 RX6 yX6_presentAlarms wsX6_presentAlarms) := goodIn_app (goodIn_of _ (by decide +kernel)) ggX6_countInHour_X6_presentAlarms
set_option maxRecDepth 20000 in
theorem ggX6_countInHour_X7_add : GoodIn wsX6_countInHour wsX7_add := goodIn_r _ [35, 36, 37, 38, 39, 73, 74, 75, 76] (by decide +kernel) (by decide +kernel)
set_option maxRecDepth 20000 in
theorem gX6_countInHour_X7_add : GoodIn wsX6_countInHour (wsV RX6 224 RX7 yX7_add wsX7_add) := goodIn_app (goodIn_of _ (by decide +kernel)) ggX6_countInHour_X7_add
theorem dX6_countInHour_0 : decode cX6_countInHour 0 = .ok (.aload_n 0, 1) := by decide +kernel
theorem dX6_countInHour_1 : decode cX6_countInHour 1 = .ok (.getfield 57, 3) := by decide +kernel
theorem dX6_countInHour_4 : decode cX6_countInHour 4 = .ok (.dup, 1) := by decide +kernel
theorem dX6_countInHour_5 : decode cX6_countInHour 5 = .ok (.getfield 213, 3) := by decide +kernel
theorem dX6_countInHour_8 : decode cX6_countInHour 8 = .ok (.aload_n 0, 1) := by decide +kernel
theorem dX6_countInHour_9 : decode cX6_countInHour 9 = .ok (.getfield 103, 3) := by decide +kernel
theorem dX6_countInHour_12 : decode cX6_countInHour 12 = .ok (.ladd, 1) := by decide +kernel
theorem dX6_countInHour_13 : decode cX6_countInHour 13 = .ok (.putfield 213, 3) := by decide +kernel
theorem dX6_countInHour_16 : decode cX6_countInHour 16 = .ok (.aload_n 0, 1) := by decide +kernel
theorem dX6_countInHour_17 : decode cX6_countInHour 17 = .ok (.getfield 57, 3) := by decide +kernel
theorem dX6_countInHour_20 : decode cX6_countInHour 20 = .ok (.dup, 1) := by decide +kernel
theorem dX6_countInHour_21 : decode cX6_countInHour 21 = .ok (.getfield 214, 3) := by decide +kernel
theorem dX6_countInHour_24 : decode cX6_countInHour 24 = .ok (.aload_n 0, 1) := by decide +kernel
theorem dX6_countInHour_25 : decode cX6_countInHour 25 = .ok (.invokevirtual 217, 3) := by decide +kernel
theorem dX6_countInHour_28 : decode cX6_countInHour 28 = .ok (.ior, 1) := by decide +kernel
theorem dX6_countInHour_29 : decode cX6_countInHour 29 = .ok (.putfield 214, 3) := by decide +kernel
theorem dX6_countInHour_32 : decode cX6_countInHour 32 = .ok (.aload_n 0, 1) := by decide +kernel
theorem dX6_countInHour_33 : decode cX6_countInHour 33 = .ok (.getfield 57, 3) := by decide +kernel
theorem dX6_countInHour_36 : decode cX6_countInHour 36 = .ok (.getfield 220, 3) := by decide +kernel
theorem dX6_countInHour_39 : decode cX6_countInHour 39 = .ok (.aload_n 0, 1) := by decide +kernel
theorem dX6_countInHour_40 : decode cX6_countInHour 40 = .ok (.getfield 94, 3) := by decide +kernel
theorem dX6_countInHour_43 : decode cX6_countInHour 43 = .ok (.aload_n 0, 1) := by decide +kernel
theorem dX6_countInHour_44 : decode cX6_countInHour 44 = .ok (.getfield 23, 3) := by decide +kernel
theorem dX6_countInHour_47 : decode cX6_countInHour 47 = .ok (.getfield 139, 3) := by decide +kernel
theorem dX6_countInHour_50 : decode cX6_countInHour 50 = .ok (.aload_n 0, 1) := by decide +kernel
theorem dX6_countInHour_51 : decode cX6_countInHour 51 = .ok (.getfield 26, 3) := by decide +kernel
theorem dX6_countInHour_54 : decode cX6_countInHour 54 = .ok (.getfield 139, 3) := by decide +kernel
theorem dX6_countInHour_57 : decode cX6_countInHour 57 = .ok (.invokevirtual 224, 3) := by decide +kernel
theorem dX6_countInHour_60 : decode cX6_countInHour 60 = .ok (.aload_n 0, 1) := by decide +kernel
theorem dX6_countInHour_61 : decode cX6_countInHour 61 = .ok (.getfield 43, 3) := by decide +kernel
theorem dX6_countInHour_64 : decode cX6_countInHour 64 = .ok (.getfield 230, 3) := by decide +kernel
theorem dX6_countInHour_67 : decode cX6_countInHour 67 = .ok (.ifCond .eq 31, 3) := by decide +kernel
theorem dX6_countInHour_70 : decode cX6_countInHour 70 = .ok (.aload_n 0, 1) := by decide +kernel
theorem dX6_countInHour_71 : decode cX6_countInHour 71 = .ok (.getfield 57, 3) := by decide +kernel
theorem dX6_countInHour_74 : decode cX6_countInHour 74 = .ok (.getfield 233, 3) := by decide +kernel
theorem dX6_countInHour_77 : decode cX6_countInHour 77 = .ok (.aload_n 0, 1) := by decide +kernel
theorem dX6_countInHour_78 : decode cX6_countInHour 78 = .ok (.getfield 94, 3) := by decide +kernel
theorem dX6_countInHour_81 : decode cX6_countInHour 81 = .ok (.aload_n 0, 1) := by decide +kernel
theorem dX6_countInHour_82 : decode cX6_countInHour 82 = .ok (.getfield 23, 3) := by decide +kernel
theorem dX6_countInHour_85 : decode cX6_countInHour 85 = .ok (.getfield 139, 3) := by decide +kernel
theorem dX6_countInHour_88 : decode cX6_countInHour 88 = .ok (.aload_n 0, 1) := by decide +kernel
theorem dX6_countInHour_89 : decode cX6_countInHour 89 = .ok (.getfield 26, 3) := by decide +kernel
theorem dX6_countInHour_92 : decode cX6_countInHour 92 = .ok (.getfield 139, 3) := by decide +kernel
theorem dX6_countInHour_95 : decode cX6_countInHour 95 = .ok (.invokevirtual 224, 3) := by decide +kernel
theorem dX6_countInHour_98 : decode cX6_countInHour 98 = .ok (.return_, 1) := by decide +kernel
set_option maxRecDepth 20000 in
theorem ggX6_presentAlarms_X6_transmitterAt : GoodIn wsX6_presentAlarms wsX6_transmitterAt := goodIn_r _ [6, 7, 8, 9, 10, 17, 18, 19, 20, 21, 22, 23, 24, 25, 26, 27, 28, 29, 30, 31, 32, 33, 34, 35, 36] (by decide +kernel) (by decide +kernel)
set_option maxRecDepth 20000 in
theorem gX6_presentAlarms_X6_transmitterAt : GoodIn wsX6_presentAlarms (wsV RX6 167 RX6 yX6_transmitterAt wsX6_transmitterAt) := goodIn_app (goodIn_of _ (by decide +kernel)) ggX6_presentAlarms_X6_transmitterAt
set_option maxRecDepth 20000 in
theorem ggX6_presentAlarms_X8_isFaulty : GoodIn wsX6_presentAlarms wsX8_isFaulty := goodIn_r _ [15, 16, 37, 38, 39, 40, 41, 42] (by decide +kernel) (by decide +kernel)
set_option maxRecDepth 20000 in
theorem gX6_presentAlarms_X8_isFaulty : GoodIn wsX6_presentAlarms (wsV RX6 171 RX8 yX8_isFaulty wsX8_isFaulty) := goodIn_app (goodIn_of _ (by decide +kernel)) ggX6_presentAlarms_X8_isFaulty
theorem dX6_presentAlarms_0 : decode cX6_presentAlarms 0 = .ok (.aload_n 0, 1) := by decide +kernel
theorem dX6_presentAlarms_1 : decode cX6_presentAlarms 1 = .ok (.getfield 91, 3) := by decide +kernel
theorem dX6_presentAlarms_4 : decode cX6_presentAlarms 4 = .ok (.ifCond .le 8, 3) := by decide +kernel
theorem dX6_presentAlarms_7 : decode cX6_presentAlarms 7 = .ok (.bipush 16, 2) := by decide +kernel
theorem dX6_presentAlarms_9 : decode cX6_presentAlarms 9 = .ok (.goto 4, 3) := by decide +kernel
theorem dX6_presentAlarms_12 : decode cX6_presentAlarms 12 = .ok (.iconst 0, 1) := by decide +kernel
theorem dX6_presentAlarms_13 : decode cX6_presentAlarms 13 = .ok (.istore_n 1, 1) := by decide +kernel
theorem dX6_presentAlarms_14 : decode cX6_presentAlarms 14 = .ok (.iconst 0, 1) := by decide +kernel
theorem dX6_presentAlarms_15 : decode cX6_presentAlarms 15 = .ok (.istore_n 2, 1) := by decide +kernel
theorem dX6_presentAlarms_16 : decode cX6_presentAlarms 16 = .ok (.iload_n 2, 1) := by decide +kernel
theorem dX6_presentAlarms_17 : decode cX6_presentAlarms 17 = .ok (.iconst 4, 1) := by decide +kernel
theorem dX6_presentAlarms_18 : decode cX6_presentAlarms 18 = .ok (.if_icmp .ge 26, 3) := by decide +kernel
theorem dX6_presentAlarms_21 : decode cX6_presentAlarms 21 = .ok (.aload_n 0, 1) := by decide +kernel
theorem dX6_presentAlarms_22 : decode cX6_presentAlarms 22 = .ok (.iload_n 2, 1) := by decide +kernel
theorem dX6_presentAlarms_23 : decode cX6_presentAlarms 23 = .ok (.invokevirtual 167, 3) := by decide +kernel
theorem dX6_presentAlarms_26 : decode cX6_presentAlarms 26 = .ok (.invokevirtual 171, 3) := by decide +kernel
theorem dX6_presentAlarms_29 : decode cX6_presentAlarms 29 = .ok (.ifCond .eq 9, 3) := by decide +kernel
theorem dX6_presentAlarms_32 : decode cX6_presentAlarms 32 = .ok (.iload_n 1, 1) := by decide +kernel
theorem dX6_presentAlarms_33 : decode cX6_presentAlarms 33 = .ok (.iconst 1, 1) := by decide +kernel
theorem dX6_presentAlarms_34 : decode cX6_presentAlarms 34 = .ok (.iload_n 2, 1) := by decide +kernel
theorem dX6_presentAlarms_35 : decode cX6_presentAlarms 35 = .ok (.ishl, 1) := by decide +kernel
theorem dX6_presentAlarms_36 : decode cX6_presentAlarms 36 = .ok (.ior, 1) := by decide +kernel
theorem dX6_presentAlarms_37 : decode cX6_presentAlarms 37 = .ok (.istore_n 1, 1) := by decide +kernel
theorem dX6_presentAlarms_38 : decode cX6_presentAlarms 38 = .ok (.iinc 2 1, 3) := by decide +kernel
theorem dX6_presentAlarms_41 : decode cX6_presentAlarms 41 = .ok (.goto (-25), 3) := by decide +kernel
theorem dX6_presentAlarms_44 : decode cX6_presentAlarms 44 = .ok (.iload_n 1, 1) := by decide +kernel
theorem dX6_presentAlarms_45 : decode cX6_presentAlarms 45 = .ok (.ireturn, 1) := by decide +kernel
set_option maxRecDepth 20000 in
theorem ggX6_endHour_X6_recordHour : GoodIn wsX6_endHour wsX6_recordHour := goodIn_r _ [9, 2, 10, 11, 12, 13, 14, 15, 16, 17, 3, 18, 19, 20, 21, 22, 23, 24, 25, 26, 27, 28, 29, 30, 31, 32, 33, 34, 35, 36, 37, 38, 39, 40, 41, 42, 43, 44, 45, 46, 47, 48, 49, 50, 51, 52, 53, 90, 91, 92, 93, 94, 95, 96, 97, 98, 99, 100, 101, 102, 103, 104, 105, 106, 107, 108, 109, 110, 111, 112, 113, 114, 115, 116, 117, 118, 119, 120, 121, 122] (by decide +kernel) (by decide +kernel)
set_option maxRecDepth 20000 in
theorem gX6_endHour_X6_recordHour : GoodIn wsX6_endHour (wsV RX6 236 RX6 yX6_recordHour wsX6_recordHour) := goodIn_app (goodIn_of _ (by decide +kernel)) ggX6_endHour_X6_recordHour
set_option maxRecDepth 20000 in
theorem ggX6_endHour_X2_add : GoodIn wsX6_endHour wsX2_add := goodIn_r _ [58, 59, 60, 61, 62, 63, 64, 123, 124, 125, 110, 111, 112, 113, 114, 115, 116, 117] (by decide +kernel) (by decide +kernel)
set_option maxRecDepth 20000 in
theorem gX6_endHour_X2_add : GoodIn wsX6_endHour (wsV RX6 239 RX2 yX2_add wsX2_add) := goodIn_app (goodIn_of _ (by decide +kernel)) ggX6_endHour_X2_add
set_option maxRecDepth 20000 in
theorem ggX6_endHour_X5_clear : GoodIn wsX6_endHour wsX5_clear := goodIn_r _ [68, 69, 70, 23, 25, 71, 72, 73, 47, 74, 49, 75, 76, 77, 110, 111, 112, 113, 114, 115, 116, 117] (by decide +kernel) (by decide +kernel)
set_option maxRecDepth 20000 in
theorem gX6_endHour_X5_clear : GoodIn wsX6_endHour (wsV RX6 241 RX5 yX5_clear wsX5_clear) := goodIn_app (goodIn_of _ (by decide +kernel)) ggX6_endHour_X5_clear
set_option maxRecDepth 20000 in
theorem ggX6_endHour_X6_recordDay : GoodIn wsX6_endHour wsX6_recordDay := goodIn_r _ [81, 82, 1, 83, 84, 85, 3, 26, 27, 28, 29, 30, 31, 32, 33, 34, 35, 36, 37, 38, 39, 40, 41, 42, 43, 90, 91, 92, 93, 94, 95, 96, 97, 98, 99, 100, 101, 102, 103, 104, 105, 106, 107, 108, 109, 123, 124, 125, 118, 119, 120, 121, 122] (by decide +kernel) (by decide +kernel)
set_option maxRecDepth 20000 in
theorem gX6_endHour_X6_recordDay : GoodIn wsX6_endHour (wsV RX6 244 RX6 yX6_recordDay wsX6_recordDay) := goodIn_app (goodIn_of _ (by decide +kernel)) ggX6_endHour_X6_recordDay
set_option maxRecDepth 20000 in
theorem ggX6_endHour_X2_clear : GoodIn wsX6_endHour wsX2_clear := goodIn_r _ [89, 59, 61, 64, 123, 124, 125] (by decide +kernel) (by decide +kernel)
set_option maxRecDepth 20000 in
theorem gX6_endHour_X2_clear : GoodIn wsX6_endHour (wsV RX6 247 RX2 yX2_clear wsX2_clear) := goodIn_app (goodIn_of _ (by decide +kernel)) ggX6_endHour_X2_clear
theorem dX6_endHour_0 : decode cX6_endHour 0 = .ok (.aload_n 0, 1) := by decide +kernel
theorem dX6_endHour_1 : decode cX6_endHour 1 = .ok (.invokevirtual 236, 3) := by decide +kernel
theorem dX6_endHour_4 : decode cX6_endHour 4 = .ok (.aload_n 0, 1) := by decide +kernel
theorem dX6_endHour_5 : decode cX6_endHour 5 = .ok (.getfield 64, 3) := by decide +kernel
theorem dX6_endHour_8 : decode cX6_endHour 8 = .ok (.aload_n 0, 1) := by decide +kernel
theorem dX6_endHour_9 : decode cX6_endHour 9 = .ok (.getfield 57, 3) := by decide +kernel
theorem dX6_endHour_12 : decode cX6_endHour 12 = .ok (.invokevirtual 239, 3) := by decide +kernel
theorem dX6_endHour_15 : decode cX6_endHour 15 = .ok (.aload_n 0, 1) := by decide +kernel
theorem dX6_endHour_16 : decode cX6_endHour 16 = .ok (.getfield 57, 3) := by decide +kernel
theorem dX6_endHour_19 : decode cX6_endHour 19 = .ok (.invokevirtual 241, 3) := by decide +kernel
theorem dX6_endHour_22 : decode cX6_endHour 22 = .ok (.aload_n 0, 1) := by decide +kernel
theorem dX6_endHour_23 : decode cX6_endHour 23 = .ok (.getfield 81, 3) := by decide +kernel
theorem dX6_endHour_26 : decode cX6_endHour 26 = .ok (.sipush 3600, 3) := by decide +kernel
theorem dX6_endHour_29 : decode cX6_endHour 29 = .ok (.idiv, 1) := by decide +kernel
theorem dX6_endHour_30 : decode cX6_endHour 30 = .ok (.bipush 24, 2) := by decide +kernel
theorem dX6_endHour_32 : decode cX6_endHour 32 = .ok (.irem, 1) := by decide +kernel
theorem dX6_endHour_33 : decode cX6_endHour 33 = .ok (.aload_n 0, 1) := by decide +kernel
theorem dX6_endHour_34 : decode cX6_endHour 34 = .ok (.getfield 84, 3) := by decide +kernel
theorem dX6_endHour_37 : decode cX6_endHour 37 = .ok (.if_icmp .ne 14, 3) := by decide +kernel
theorem dX6_endHour_40 : decode cX6_endHour 40 = .ok (.aload_n 0, 1) := by decide +kernel
theorem dX6_endHour_41 : decode cX6_endHour 41 = .ok (.invokevirtual 244, 3) := by decide +kernel
theorem dX6_endHour_44 : decode cX6_endHour 44 = .ok (.aload_n 0, 1) := by decide +kernel
theorem dX6_endHour_45 : decode cX6_endHour 45 = .ok (.getfield 64, 3) := by decide +kernel
theorem dX6_endHour_48 : decode cX6_endHour 48 = .ok (.invokevirtual 247, 3) := by decide +kernel
theorem dX6_endHour_51 : decode cX6_endHour 51 = .ok (.return_, 1) := by decide +kernel
set_option maxRecDepth 20000 in
theorem ggX6_recordHour_X5_sumsForMeans : GoodIn wsX6_recordHour wsX5_sumsForMeans := goodIn_r _ [15, 16, 17, 18, 67, 68, 69, 70, 71, 72, 73, 74] (by decide +kernel) (by decide +kernel)
set_option maxRecDepth 20000 in
theorem gX6_recordHour_X5_sumsForMeans : GoodIn wsX6_recordHour (wsV RX6 248 RX5 yX5_sumsForMeans wsX5_sumsForMeans) := goodIn_app (goodIn_of _ (by decide +kernel)) ggX6_recordHour_X5_sumsForMeans
set_option maxRecDepth 20000 in
theorem ggX6_recordHour_X4_addRow : GoodIn wsX6_recordHour wsX4_addRow := goodIn_r _ [23, 24, 25, 26, 75, 76, 77, 78, 79] (by decide +kernel) (by decide +kernel)
set_option maxRecDepth 20000 in
theorem gX6_recordHour_X4_addRow : GoodIn wsX6_recordHour (wsV RX6 252 RX4 yX4_addRow wsX4_addRow) := goodIn_app (goodIn_of _ (by decide +kernel)) ggX6_recordHour_X4_addRow
set_option maxRecDepth 20000 in
theorem ggX6_recordHour_X4_put : GoodIn wsX6_recordHour wsX4_put := goodIn_r _ [30, 24, 31, 32, 33, 34, 22, 35, 26, 25, 36, 75, 76, 77, 78, 79] (by decide +kernel) (by decide +kernel)
set_option maxRecDepth 20000 in
theorem gX6_recordHour_X4_put : GoodIn wsX6_recordHour (wsV RX6 255 RX4 yX4_put wsX4_put) := goodIn_app (goodIn_of _ (by decide +kernel)) ggX6_recordHour_X4_put
set_option maxRecDepth 20000 in
theorem ggX6_recordHour_X7_mean : GoodIn wsX6_recordHour wsX7_mean := goodIn_r _ [41, 42, 43, 44, 45, 46, 71, 72, 73, 74] (by decide +kernel) (by decide +kernel)
set_option maxRecDepth 20000 in
theorem gX6_recordHour_X7_mean : GoodIn wsX6_recordHour (wsV RX6 263 RX7 yX7_mean wsX7_mean) := goodIn_app (goodIn_of _ (by decide +kernel)) ggX6_recordHour_X7_mean
theorem dX6_recordHour_0 : decode cX6_recordHour 0 = .ok (.aload_n 0, 1) := by decide +kernel
theorem dX6_recordHour_1 : decode cX6_recordHour 1 = .ok (.getfield 57, 3) := by decide +kernel
theorem dX6_recordHour_4 : decode cX6_recordHour 4 = .ok (.invokevirtual 248, 3) := by decide +kernel
theorem dX6_recordHour_7 : decode cX6_recordHour 7 = .ok (.astore_n 1, 1) := by decide +kernel
theorem dX6_recordHour_8 : decode cX6_recordHour 8 = .ok (.aload_n 0, 1) := by decide +kernel
theorem dX6_recordHour_9 : decode cX6_recordHour 9 = .ok (.getfield 71, 3) := by decide +kernel
theorem dX6_recordHour_12 : decode cX6_recordHour 12 = .ok (.invokevirtual 252, 3) := by decide +kernel
theorem dX6_recordHour_15 : decode cX6_recordHour 15 = .ok (.aload_n 0, 1) := by decide +kernel
theorem dX6_recordHour_16 : decode cX6_recordHour 16 = .ok (.getfield 71, 3) := by decide +kernel
theorem dX6_recordHour_19 : decode cX6_recordHour 19 = .ok (.iconst 0, 1) := by decide +kernel
theorem dX6_recordHour_20 : decode cX6_recordHour 20 = .ok (.aload_n 0, 1) := by decide +kernel
theorem dX6_recordHour_21 : decode cX6_recordHour 21 = .ok (.getfield 57, 3) := by decide +kernel
theorem dX6_recordHour_24 : decode cX6_recordHour 24 = .ok (.getfield 213, 3) := by decide +kernel
theorem dX6_recordHour_27 : decode cX6_recordHour 27 = .ok (.invokevirtual 255, 3) := by decide +kernel
theorem dX6_recordHour_30 : decode cX6_recordHour 30 = .ok (.aload_n 0, 1) := by decide +kernel
theorem dX6_recordHour_31 : decode cX6_recordHour 31 = .ok (.getfield 71, 3) := by decide +kernel
theorem dX6_recordHour_34 : decode cX6_recordHour 34 = .ok (.iconst 1, 1) := by decide +kernel
theorem dX6_recordHour_35 : decode cX6_recordHour 35 = .ok (.aload_n 0, 1) := by decide +kernel
theorem dX6_recordHour_36 : decode cX6_recordHour 36 = .ok (.getfield 57, 3) := by decide +kernel
theorem dX6_recordHour_39 : decode cX6_recordHour 39 = .ok (.getfield 233, 3) := by decide +kernel
theorem dX6_recordHour_42 : decode cX6_recordHour 42 = .ok (.getfield 258, 3) := by decide +kernel
theorem dX6_recordHour_45 : decode cX6_recordHour 45 = .ok (.i2l, 1) := by decide +kernel
theorem dX6_recordHour_46 : decode cX6_recordHour 46 = .ok (.invokevirtual 255, 3) := by decide +kernel
theorem dX6_recordHour_49 : decode cX6_recordHour 49 = .ok (.aload_n 0, 1) := by decide +kernel
theorem dX6_recordHour_50 : decode cX6_recordHour 50 = .ok (.getfield 71, 3) := by decide +kernel
theorem dX6_recordHour_53 : decode cX6_recordHour 53 = .ok (.iconst 2, 1) := by decide +kernel
theorem dX6_recordHour_54 : decode cX6_recordHour 54 = .ok (.aload_n 1, 1) := by decide +kernel
theorem dX6_recordHour_55 : decode cX6_recordHour 55 = .ok (.aload_n 1, 1) := by decide +kernel
theorem dX6_recordHour_56 : decode cX6_recordHour 56 = .ok (.getfield 261, 3) := by decide +kernel
theorem dX6_recordHour_59 : decode cX6_recordHour 59 = .ok (.invokevirtual 263, 3) := by decide +kernel
theorem dX6_recordHour_62 : decode cX6_recordHour 62 = .ok (.invokevirtual 255, 3) := by decide +kernel
theorem dX6_recordHour_65 : decode cX6_recordHour 65 = .ok (.aload_n 0, 1) := by decide +kernel
theorem dX6_recordHour_66 : decode cX6_recordHour 66 = .ok (.getfield 71, 3) := by decide +kernel
theorem dX6_recordHour_69 : decode cX6_recordHour 69 = .ok (.iconst 3, 1) := by decide +kernel
theorem dX6_recordHour_70 : decode cX6_recordHour 70 = .ok (.aload_n 1, 1) := by decide +kernel
theorem dX6_recordHour_71 : decode cX6_recordHour 71 = .ok (.aload_n 1, 1) := by decide +kernel
theorem dX6_recordHour_72 : decode cX6_recordHour 72 = .ok (.getfield 266, 3) := by decide +kernel
theorem dX6_recordHour_75 : decode cX6_recordHour 75 = .ok (.invokevirtual 263, 3) := by decide +kernel
theorem dX6_recordHour_78 : decode cX6_recordHour 78 = .ok (.invokevirtual 255, 3) := by decide +kernel
theorem dX6_recordHour_81 : decode cX6_recordHour 81 = .ok (.aload_n 0, 1) := by decide +kernel
theorem dX6_recordHour_82 : decode cX6_recordHour 82 = .ok (.getfield 71, 3) := by decide +kernel
theorem dX6_recordHour_85 : decode cX6_recordHour 85 = .ok (.iconst 4, 1) := by decide +kernel
theorem dX6_recordHour_86 : decode cX6_recordHour 86 = .ok (.aload_n 1, 1) := by decide +kernel
theorem dX6_recordHour_87 : decode cX6_recordHour 87 = .ok (.aload_n 1, 1) := by decide +kernel
theorem dX6_recordHour_88 : decode cX6_recordHour 88 = .ok (.getfield 268, 3) := by decide +kernel
theorem dX6_recordHour_91 : decode cX6_recordHour 91 = .ok (.invokevirtual 263, 3) := by decide +kernel
theorem dX6_recordHour_94 : decode cX6_recordHour 94 = .ok (.invokevirtual 255, 3) := by decide +kernel
theorem dX6_recordHour_97 : decode cX6_recordHour 97 = .ok (.aload_n 0, 1) := by decide +kernel
theorem dX6_recordHour_98 : decode cX6_recordHour 98 = .ok (.getfield 71, 3) := by decide +kernel
theorem dX6_recordHour_101 : decode cX6_recordHour 101 = .ok (.iconst 5, 1) := by decide +kernel
theorem dX6_recordHour_102 : decode cX6_recordHour 102 = .ok (.aload_n 0, 1) := by decide +kernel
theorem dX6_recordHour_103 : decode cX6_recordHour 103 = .ok (.getfield 57, 3) := by decide +kernel
theorem dX6_recordHour_106 : decode cX6_recordHour 106 = .ok (.getfield 214, 3) := by decide +kernel
theorem dX6_recordHour_109 : decode cX6_recordHour 109 = .ok (.i2l, 1) := by decide +kernel
theorem dX6_recordHour_110 : decode cX6_recordHour 110 = .ok (.invokevirtual 255, 3) := by decide +kernel
theorem dX6_recordHour_113 : decode cX6_recordHour 113 = .ok (.aload_n 0, 1) := by decide +kernel
theorem dX6_recordHour_114 : decode cX6_recordHour 114 = .ok (.getfield 71, 3) := by decide +kernel
theorem dX6_recordHour_117 : decode cX6_recordHour 117 = .ok (.bipush 6, 2) := by decide +kernel
theorem dX6_recordHour_119 : decode cX6_recordHour 119 = .ok (.aload_n 0, 1) := by decide +kernel
theorem dX6_recordHour_120 : decode cX6_recordHour 120 = .ok (.getfield 81, 3) := by decide +kernel
theorem dX6_recordHour_123 : decode cX6_recordHour 123 = .ok (.i2l, 1) := by decide +kernel
theorem dX6_recordHour_124 : decode cX6_recordHour 124 = .ok (.invokevirtual 255, 3) := by decide +kernel
theorem dX6_recordHour_127 : decode cX6_recordHour 127 = .ok (.return_, 1) := by decide +kernel
set_option maxRecDepth 20000 in
theorem ggX6_recordDay_X4_addRow : GoodIn wsX6_recordDay wsX4_addRow := goodIn_r _ [11, 12, 13, 14, 48, 49, 50, 51, 52] (by decide +kernel) (by decide +kernel)
set_option maxRecDepth 20000 in
theorem gX6_recordDay_X4_addRow : GoodIn wsX6_recordDay (wsV RX6 252 RX4 yX4_addRow wsX4_addRow) := goodIn_app (goodIn_of _ (by decide +kernel)) ggX6_recordDay_X4_addRow
set_option maxRecDepth 20000 in
theorem ggX6_recordDay_X4_put : GoodIn wsX6_recordDay wsX4_put := goodIn_r _ [18, 12, 19, 20, 21, 22, 10, 23, 14, 13, 24, 48, 49, 50, 51, 52] (by decide +kernel) (by decide +kernel)
set_option maxRecDepth 20000 in
theorem gX6_recordDay_X4_put : GoodIn wsX6_recordDay (wsV RX6 255 RX4 yX4_put wsX4_put) := goodIn_app (goodIn_of _ (by decide +kernel)) ggX6_recordDay_X4_put
theorem dX6_recordDay_0 : decode cX6_recordDay 0 = .ok (.aload_n 0, 1) := by decide +kernel
theorem dX6_recordDay_1 : decode cX6_recordDay 1 = .ok (.getfield 75, 3) := by decide +kernel
theorem dX6_recordDay_4 : decode cX6_recordDay 4 = .ok (.invokevirtual 252, 3) := by decide +kernel
theorem dX6_recordDay_7 : decode cX6_recordDay 7 = .ok (.aload_n 0, 1) := by decide +kernel
theorem dX6_recordDay_8 : decode cX6_recordDay 8 = .ok (.getfield 75, 3) := by decide +kernel
theorem dX6_recordDay_11 : decode cX6_recordDay 11 = .ok (.iconst 0, 1) := by decide +kernel
theorem dX6_recordDay_12 : decode cX6_recordDay 12 = .ok (.aload_n 0, 1) := by decide +kernel
theorem dX6_recordDay_13 : decode cX6_recordDay 13 = .ok (.getfield 64, 3) := by decide +kernel
theorem dX6_recordDay_16 : decode cX6_recordDay 16 = .ok (.getfield 270, 3) := by decide +kernel
theorem dX6_recordDay_19 : decode cX6_recordDay 19 = .ok (.invokevirtual 255, 3) := by decide +kernel
theorem dX6_recordDay_22 : decode cX6_recordDay 22 = .ok (.aload_n 0, 1) := by decide +kernel
theorem dX6_recordDay_23 : decode cX6_recordDay 23 = .ok (.getfield 75, 3) := by decide +kernel
theorem dX6_recordDay_26 : decode cX6_recordDay 26 = .ok (.iconst 1, 1) := by decide +kernel
theorem dX6_recordDay_27 : decode cX6_recordDay 27 = .ok (.aload_n 0, 1) := by decide +kernel
theorem dX6_recordDay_28 : decode cX6_recordDay 28 = .ok (.getfield 64, 3) := by decide +kernel
theorem dX6_recordDay_31 : decode cX6_recordDay 31 = .ok (.getfield 271, 3) := by decide +kernel
theorem dX6_recordDay_34 : decode cX6_recordDay 34 = .ok (.invokevirtual 255, 3) := by decide +kernel
theorem dX6_recordDay_37 : decode cX6_recordDay 37 = .ok (.aload_n 0, 1) := by decide +kernel
theorem dX6_recordDay_38 : decode cX6_recordDay 38 = .ok (.getfield 75, 3) := by decide +kernel
theorem dX6_recordDay_41 : decode cX6_recordDay 41 = .ok (.iconst 2, 1) := by decide +kernel
theorem dX6_recordDay_42 : decode cX6_recordDay 42 = .ok (.aload_n 0, 1) := by decide +kernel
theorem dX6_recordDay_43 : decode cX6_recordDay 43 = .ok (.getfield 64, 3) := by decide +kernel
theorem dX6_recordDay_46 : decode cX6_recordDay 46 = .ok (.getfield 274, 3) := by decide +kernel
theorem dX6_recordDay_49 : decode cX6_recordDay 49 = .ok (.i2l, 1) := by decide +kernel
theorem dX6_recordDay_50 : decode cX6_recordDay 50 = .ok (.invokevirtual 255, 3) := by decide +kernel
theorem dX6_recordDay_53 : decode cX6_recordDay 53 = .ok (.aload_n 0, 1) := by decide +kernel
theorem dX6_recordDay_54 : decode cX6_recordDay 54 = .ok (.getfield 75, 3) := by decide +kernel
theorem dX6_recordDay_57 : decode cX6_recordDay 57 = .ok (.iconst 3, 1) := by decide +kernel
theorem dX6_recordDay_58 : decode cX6_recordDay 58 = .ok (.aload_n 0, 1) := by decide +kernel
theorem dX6_recordDay_59 : decode cX6_recordDay 59 = .ok (.getfield 81, 3) := by decide +kernel
theorem dX6_recordDay_62 : decode cX6_recordDay 62 = .ok (.i2l, 1) := by decide +kernel
theorem dX6_recordDay_63 : decode cX6_recordDay 63 = .ok (.invokevirtual 255, 3) := by decide +kernel
theorem dX6_recordDay_66 : decode cX6_recordDay 66 = .ok (.return_, 1) := by decide +kernel
set_option maxRecDepth 20000 in
theorem ggX6_logSetting_X6_log : GoodIn wsX6_logSetting wsX6_log := goodIn_r _ [5, 6, 7, 8, 9, 10, 11, 12, 13, 14, 15, 16, 17, 18, 19, 20, 21, 22, 23, 24, 25, 26, 27, 28, 29, 30, 31, 32, 33, 34, 35, 36, 37, 38, 39, 40, 41, 42, 43, 44, 45, 46, 47, 48, 49, 50] (by decide +kernel) (by decide +kernel)
set_option maxRecDepth 20000 in
theorem gX6_logSetting_X6_log : GoodIn wsX6_logSetting (wsV RX6 179 RX6 yX6_log wsX6_log) := goodIn_app (goodIn_of _ (by decide +kernel)) ggX6_logSetting_X6_log
theorem dX6_logSetting_0 : decode cX6_logSetting 0 = .ok (.aload_n 0, 1) := by decide +kernel
theorem dX6_logSetting_1 : decode cX6_logSetting 1 = .ok (.iconst 5, 1) := by decide +kernel
theorem dX6_logSetting_2 : decode cX6_logSetting 2 = .ok (.iload_n 1, 1) := by decide +kernel
theorem dX6_logSetting_3 : decode cX6_logSetting 3 = .ok (.i2l, 1) := by decide +kernel
theorem dX6_logSetting_4 : decode cX6_logSetting 4 = .ok (.invokevirtual 179, 3) := by decide +kernel
theorem dX6_logSetting_7 : decode cX6_logSetting 7 = .ok (.return_, 1) := by decide +kernel
set_option maxRecDepth 20000 in
theorem ggX6_log_X4_addRow : GoodIn wsX6_log wsX4_addRow := goodIn_r _ [7, 8, 9, 10, 41, 42, 43, 44, 45] (by decide +kernel) (by decide +kernel)
set_option maxRecDepth 20000 in
theorem gX6_log_X4_addRow : GoodIn wsX6_log (wsV RX6 252 RX4 yX4_addRow wsX4_addRow) := goodIn_app (goodIn_of _ (by decide +kernel)) ggX6_log_X4_addRow
set_option maxRecDepth 20000 in
theorem ggX6_log_X4_put : GoodIn wsX6_log wsX4_put := goodIn_r _ [14, 8, 15, 16, 17, 18, 6, 19, 10, 9, 20, 41, 42, 43, 44, 45] (by decide +kernel) (by decide +kernel)
set_option maxRecDepth 20000 in
theorem gX6_log_X4_put : GoodIn wsX6_log (wsV RX6 255 RX4 yX4_put wsX4_put) := goodIn_app (goodIn_of _ (by decide +kernel)) ggX6_log_X4_put
theorem dX6_log_0 : decode cX6_log 0 = .ok (.aload_n 0, 1) := by decide +kernel
theorem dX6_log_1 : decode cX6_log 1 = .ok (.getfield 78, 3) := by decide +kernel
theorem dX6_log_4 : decode cX6_log 4 = .ok (.invokevirtual 252, 3) := by decide +kernel
theorem dX6_log_7 : decode cX6_log 7 = .ok (.aload_n 0, 1) := by decide +kernel
theorem dX6_log_8 : decode cX6_log 8 = .ok (.getfield 78, 3) := by decide +kernel
theorem dX6_log_11 : decode cX6_log 11 = .ok (.iconst 0, 1) := by decide +kernel
theorem dX6_log_12 : decode cX6_log 12 = .ok (.aload_n 0, 1) := by decide +kernel
theorem dX6_log_13 : decode cX6_log 13 = .ok (.getfield 81, 3) := by decide +kernel
theorem dX6_log_16 : decode cX6_log 16 = .ok (.i2l, 1) := by decide +kernel
theorem dX6_log_17 : decode cX6_log 17 = .ok (.invokevirtual 255, 3) := by decide +kernel
theorem dX6_log_20 : decode cX6_log 20 = .ok (.aload_n 0, 1) := by decide +kernel
theorem dX6_log_21 : decode cX6_log 21 = .ok (.getfield 78, 3) := by decide +kernel
theorem dX6_log_24 : decode cX6_log 24 = .ok (.iconst 1, 1) := by decide +kernel
theorem dX6_log_25 : decode cX6_log 25 = .ok (.iload_n 1, 1) := by decide +kernel
theorem dX6_log_26 : decode cX6_log 26 = .ok (.i2l, 1) := by decide +kernel
theorem dX6_log_27 : decode cX6_log 27 = .ok (.invokevirtual 255, 3) := by decide +kernel
theorem dX6_log_30 : decode cX6_log 30 = .ok (.aload_n 0, 1) := by decide +kernel
theorem dX6_log_31 : decode cX6_log 31 = .ok (.getfield 78, 3) := by decide +kernel
theorem dX6_log_34 : decode cX6_log 34 = .ok (.iconst 2, 1) := by decide +kernel
theorem dX6_log_35 : decode cX6_log 35 = .ok (.lload_n 2, 1) := by decide +kernel
theorem dX6_log_36 : decode cX6_log 36 = .ok (.invokevirtual 255, 3) := by decide +kernel
theorem dX6_log_39 : decode cX6_log 39 = .ok (.return_, 1) := by decide +kernel
set_option maxRecDepth 20000 in
theorem ggX6_presentDensity_X3_densityAt : GoodIn wsX6_presentDensity wsX3_densityAt := goodIn_r _ [9, 10, 11, 12, 13, 14, 15, 16, 17, 18, 19, 20, 21, 22, 23, 8, 24, 25, 26, 27, 54, 55, 56, 57] (by decide +kernel) (by decide +kernel)
set_option maxRecDepth 20000 in
theorem gX6_presentDensity_X3_densityAt : GoodIn wsX6_presentDensity (wsV RX6 277 RX3 yX3_densityAt wsX3_densityAt) := goodIn_app (goodIn_of _ (by decide +kernel)) ggX6_presentDensity_X3_densityAt
theorem dX6_presentDensity_0 : decode cX6_presentDensity 0 = .ok (.aload_n 0, 1) := by decide +kernel
theorem dX6_presentDensity_1 : decode cX6_presentDensity 1 = .ok (.getfield 36, 3) := by decide +kernel
theorem dX6_presentDensity_4 : decode cX6_presentDensity 4 = .ok (.aload_n 0, 1) := by decide +kernel
theorem dX6_presentDensity_5 : decode cX6_presentDensity 5 = .ok (.getfield 23, 3) := by decide +kernel
theorem dX6_presentDensity_8 : decode cX6_presentDensity 8 = .ok (.getfield 139, 3) := by decide +kernel
theorem dX6_presentDensity_11 : decode cX6_presentDensity 11 = .ok (.aload_n 0, 1) := by decide +kernel
theorem dX6_presentDensity_12 : decode cX6_presentDensity 12 = .ok (.getfield 26, 3) := by decide +kernel
theorem dX6_presentDensity_15 : decode cX6_presentDensity 15 = .ok (.getfield 139, 3) := by decide +kernel
theorem dX6_presentDensity_18 : decode cX6_presentDensity 18 = .ok (.invokevirtual 277, 3) := by decide +kernel
theorem dX6_presentDensity_21 : decode cX6_presentDensity 21 = .ok (.lreturn, 1) := by decide +kernel
theorem dX6_totalOf_0 : decode cX6_totalOf 0 = .ok (.iload_n 1, 1) := by decide +kernel
theorem dX6_totalOf_1 : decode cX6_totalOf 1 = .ok (.tableswitch 45 0 2 #[27, 32, 37], 27) := by decide +kernel
theorem dX6_totalOf_28 : decode cX6_totalOf 28 = .ok (.aload_n 0, 1) := by decide +kernel
theorem dX6_totalOf_29 : decode cX6_totalOf 29 = .ok (.getfield 107, 3) := by decide +kernel
theorem dX6_totalOf_32 : decode cX6_totalOf 32 = .ok (.lreturn, 1) := by decide +kernel
theorem dX6_totalOf_33 : decode cX6_totalOf 33 = .ok (.aload_n 0, 1) := by decide +kernel
theorem dX6_totalOf_34 : decode cX6_totalOf 34 = .ok (.getfield 110, 3) := by decide +kernel
theorem dX6_totalOf_37 : decode cX6_totalOf 37 = .ok (.lreturn, 1) := by decide +kernel
theorem dX6_totalOf_38 : decode cX6_totalOf 38 = .ok (.aload_n 0, 1) := by decide +kernel
theorem dX6_totalOf_39 : decode cX6_totalOf 39 = .ok (.getfield 50, 3) := by decide +kernel
theorem dX6_totalOf_42 : decode cX6_totalOf 42 = .ok (.getfield 209, 3) := by decide +kernel
theorem dX6_totalOf_45 : decode cX6_totalOf 45 = .ok (.lreturn, 1) := by decide +kernel
theorem dX6_totalOf_46 : decode cX6_totalOf 46 = .ok (.aload_n 0, 1) := by decide +kernel
theorem dX6_totalOf_47 : decode cX6_totalOf 47 = .ok (.getfield 57, 3) := by decide +kernel
theorem dX6_totalOf_50 : decode cX6_totalOf 50 = .ok (.getfield 213, 3) := by decide +kernel
theorem dX6_totalOf_53 : decode cX6_totalOf 53 = .ok (.lreturn, 1) := by decide +kernel
set_option maxRecDepth 20000 in
theorem ggX6_hashAfter_X6_hashOfSettings : GoodIn wsX6_hashAfter wsX6_hashOfSettings := goodIn_r _ [16, 17, 18, 19, 20, 5, 21, 22, 23, 24, 25, 26, 27, 28, 29, 30, 15, 31, 32, 33, 34, 35, 36, 37, 38, 39, 40, 41, 42, 43, 44, 45, 46, 47, 48, 49, 50, 51, 105, 106, 107, 108, 109, 110, 111, 112, 113, 114, 115, 116, 117, 118, 119, 120, 121, 122, 123, 124, 134, 135, 136, 137, 125, 126, 127, 138, 139, 140, 141, 142, 143] (by decide +kernel) (by decide +kernel)
set_option maxRecDepth 20000 in
theorem gX6_hashAfter_X6_hashOfSettings : GoodIn wsX6_hashAfter (wsV RX6 281 RX6 yX6_hashOfSettings wsX6_hashOfSettings) := goodIn_app (goodIn_of _ (by decide +kernel)) ggX6_hashAfter_X6_hashOfSettings
set_option maxRecDepth 20000 in
theorem ggX6_hashAfter_X9_hashed : GoodIn wsX6_hashAfter wsX9_hashed := goodIn_r _ [26, 27] (by decide +kernel) (by decide +kernel)
set_option maxRecDepth 20000 in
theorem gX6_hashAfter_X9_hashed_n284 : GoodIn wsX6_hashAfter (wsX9_hashed) := ggX6_hashAfter_X9_hashed
set_option maxRecDepth 20000 in
theorem ggX6_hashAfter_X6_presentDensity : GoodIn wsX6_hashAfter wsX6_presentDensity := goodIn_r _ [55, 18, 34, 56, 35, 57, 58, 59, 48, 60, 61, 50, 62, 63, 64, 65, 66, 67, 68, 69, 70, 71, 72, 73, 74, 75, 76, 77, 105, 106, 107, 108, 109, 110, 111, 112, 113, 114, 115, 116, 117, 118, 119, 120, 121, 122, 123, 124, 138, 139, 140, 141, 142, 143, 134, 135, 136, 137] (by decide +kernel) (by decide +kernel)
set_option maxRecDepth 20000 in
theorem gX6_hashAfter_X6_presentDensity : GoodIn wsX6_hashAfter (wsV RX6 135 RX6 yX6_presentDensity wsX6_presentDensity) := goodIn_app (goodIn_of _ (by decide +kernel)) ggX6_hashAfter_X6_presentDensity
set_option maxRecDepth 20000 in
theorem ggX6_hashAfter_X6_totalOf : GoodIn wsX6_hashAfter wsX6_totalOf := goodIn_r _ [81, 82, 83, 7, 84, 85, 86, 105, 106, 107, 108, 109, 110, 111, 112, 113, 114, 115, 116, 117, 118, 119, 120, 121, 122, 123, 124, 128, 129, 130, 131, 132, 133, 144, 145, 146, 147] (by decide +kernel) (by decide +kernel)
set_option maxRecDepth 20000 in
theorem gX6_hashAfter_X6_totalOf : GoodIn wsX6_hashAfter (wsV RX6 287 RX6 yX6_totalOf wsX6_totalOf) := goodIn_app (goodIn_of _ (by decide +kernel)) ggX6_hashAfter_X6_totalOf
set_option maxRecDepth 20000 in
theorem ggX6_hashAfter_X4_hashAfter : GoodIn wsX6_hashAfter wsX4_hashAfter := goodIn_r _ [91, 92, 93, 24, 25, 26, 27, 94, 95, 96, 90, 97, 98, 99, 100, 101, 102, 103, 104, 148, 149, 150, 151, 152] (by decide +kernel) (by decide +kernel)
set_option maxRecDepth 20000 in
theorem gX6_hashAfter_X4_hashAfter : GoodIn wsX6_hashAfter (wsV RX6 294 RX4 yX4_hashAfter wsX4_hashAfter) := goodIn_app (goodIn_of _ (by decide +kernel)) ggX6_hashAfter_X4_hashAfter
theorem dX6_hashAfter_0 : decode cX6_hashAfter 0 = .ok (.aload_n 0, 1) := by decide +kernel
theorem dX6_hashAfter_1 : decode cX6_hashAfter 1 = .ok (.lload_n 1, 1) := by decide +kernel
theorem dX6_hashAfter_2 : decode cX6_hashAfter 2 = .ok (.invokevirtual 281, 3) := by decide +kernel
theorem dX6_hashAfter_5 : decode cX6_hashAfter 5 = .ok (.lstore_n 3, 1) := by decide +kernel
theorem dX6_hashAfter_6 : decode cX6_hashAfter 6 = .ok (.lload_n 3, 1) := by decide +kernel
theorem dX6_hashAfter_7 : decode cX6_hashAfter 7 = .ok (.aload_n 0, 1) := by decide +kernel
theorem dX6_hashAfter_8 : decode cX6_hashAfter 8 = .ok (.getfield 29, 3) := by decide +kernel
theorem dX6_hashAfter_11 : decode cX6_hashAfter 11 = .ok (.i2l, 1) := by decide +kernel
theorem dX6_hashAfter_12 : decode cX6_hashAfter 12 = .ok (.invokestatic 284, 3) := by decide +kernel
theorem dX6_hashAfter_15 : decode cX6_hashAfter 15 = .ok (.lstore_n 3, 1) := by decide +kernel
theorem dX6_hashAfter_16 : decode cX6_hashAfter 16 = .ok (.lload_n 3, 1) := by decide +kernel
theorem dX6_hashAfter_17 : decode cX6_hashAfter 17 = .ok (.aload_n 0, 1) := by decide +kernel
theorem dX6_hashAfter_18 : decode cX6_hashAfter 18 = .ok (.getfield 91, 3) := by decide +kernel
theorem dX6_hashAfter_21 : decode cX6_hashAfter 21 = .ok (.i2l, 1) := by decide +kernel
theorem dX6_hashAfter_22 : decode cX6_hashAfter 22 = .ok (.invokestatic 284, 3) := by decide +kernel
theorem dX6_hashAfter_25 : decode cX6_hashAfter 25 = .ok (.lstore_n 3, 1) := by decide +kernel
theorem dX6_hashAfter_26 : decode cX6_hashAfter 26 = .ok (.lload_n 3, 1) := by decide +kernel
theorem dX6_hashAfter_27 : decode cX6_hashAfter 27 = .ok (.aload_n 0, 1) := by decide +kernel
theorem dX6_hashAfter_28 : decode cX6_hashAfter 28 = .ok (.getfield 94, 3) := by decide +kernel
theorem dX6_hashAfter_31 : decode cX6_hashAfter 31 = .ok (.i2l, 1) := by decide +kernel
theorem dX6_hashAfter_32 : decode cX6_hashAfter 32 = .ok (.invokestatic 284, 3) := by decide +kernel
theorem dX6_hashAfter_35 : decode cX6_hashAfter 35 = .ok (.lstore_n 3, 1) := by decide +kernel
theorem dX6_hashAfter_36 : decode cX6_hashAfter 36 = .ok (.lload_n 3, 1) := by decide +kernel
theorem dX6_hashAfter_37 : decode cX6_hashAfter 37 = .ok (.aload_n 0, 1) := by decide +kernel
theorem dX6_hashAfter_38 : decode cX6_hashAfter 38 = .ok (.invokevirtual 135, 3) := by decide +kernel
theorem dX6_hashAfter_41 : decode cX6_hashAfter 41 = .ok (.invokestatic 284, 3) := by decide +kernel
theorem dX6_hashAfter_44 : decode cX6_hashAfter 44 = .ok (.lstore_n 3, 1) := by decide +kernel
theorem dX6_hashAfter_45 : decode cX6_hashAfter 45 = .ok (.lload_n 3, 1) := by decide +kernel
theorem dX6_hashAfter_46 : decode cX6_hashAfter 46 = .ok (.aload_n 0, 1) := by decide +kernel
theorem dX6_hashAfter_47 : decode cX6_hashAfter 47 = .ok (.getfield 103, 3) := by decide +kernel
theorem dX6_hashAfter_50 : decode cX6_hashAfter 50 = .ok (.invokestatic 284, 3) := by decide +kernel
theorem dX6_hashAfter_53 : decode cX6_hashAfter 53 = .ok (.lstore_n 3, 1) := by decide +kernel
theorem dX6_hashAfter_54 : decode cX6_hashAfter 54 = .ok (.lload_n 3, 1) := by decide +kernel
theorem dX6_hashAfter_55 : decode cX6_hashAfter 55 = .ok (.aload_n 0, 1) := by decide +kernel
theorem dX6_hashAfter_56 : decode cX6_hashAfter 56 = .ok (.getfield 43, 3) := by decide +kernel
theorem dX6_hashAfter_59 : decode cX6_hashAfter 59 = .ok (.getfield 230, 3) := by decide +kernel
theorem dX6_hashAfter_62 : decode cX6_hashAfter 62 = .ok (.ifCond .eq 7, 3) := by decide +kernel
theorem dX6_hashAfter_65 : decode cX6_hashAfter 65 = .ok (.lconst 1, 1) := by decide +kernel
theorem dX6_hashAfter_66 : decode cX6_hashAfter 66 = .ok (.goto 4, 3) := by decide +kernel
theorem dX6_hashAfter_69 : decode cX6_hashAfter 69 = .ok (.lconst 0, 1) := by decide +kernel
theorem dX6_hashAfter_70 : decode cX6_hashAfter 70 = .ok (.invokestatic 284, 3) := by decide +kernel
theorem dX6_hashAfter_73 : decode cX6_hashAfter 73 = .ok (.lstore_n 3, 1) := by decide +kernel
theorem dX6_hashAfter_74 : decode cX6_hashAfter 74 = .ok (.iconst 0, 1) := by decide +kernel
theorem dX6_hashAfter_75 : decode cX6_hashAfter 75 = .ok (.istore 5, 2) := by decide +kernel
theorem dX6_hashAfter_77 : decode cX6_hashAfter 77 = .ok (.iload 5, 2) := by decide +kernel
theorem dX6_hashAfter_79 : decode cX6_hashAfter 79 = .ok (.iconst 4, 1) := by decide +kernel
theorem dX6_hashAfter_80 : decode cX6_hashAfter 80 = .ok (.if_icmp .ge 20, 3) := by decide +kernel
theorem dX6_hashAfter_83 : decode cX6_hashAfter 83 = .ok (.lload_n 3, 1) := by decide +kernel
theorem dX6_hashAfter_84 : decode cX6_hashAfter 84 = .ok (.aload_n 0, 1) := by decide +kernel
theorem dX6_hashAfter_85 : decode cX6_hashAfter 85 = .ok (.iload 5, 2) := by decide +kernel
theorem dX6_hashAfter_87 : decode cX6_hashAfter 87 = .ok (.invokevirtual 287, 3) := by decide +kernel
theorem dX6_hashAfter_90 : decode cX6_hashAfter 90 = .ok (.invokestatic 284, 3) := by decide +kernel
theorem dX6_hashAfter_93 : decode cX6_hashAfter 93 = .ok (.lstore_n 3, 1) := by decide +kernel
theorem dX6_hashAfter_94 : decode cX6_hashAfter 94 = .ok (.iinc 5 1, 3) := by decide +kernel
theorem dX6_hashAfter_97 : decode cX6_hashAfter 97 = .ok (.goto (-20), 3) := by decide +kernel
theorem dX6_hashAfter_100 : decode cX6_hashAfter 100 = .ok (.lload_n 3, 1) := by decide +kernel
theorem dX6_hashAfter_101 : decode cX6_hashAfter 101 = .ok (.aload_n 0, 1) := by decide +kernel
theorem dX6_hashAfter_102 : decode cX6_hashAfter 102 = .ok (.getfield 50, 3) := by decide +kernel
theorem dX6_hashAfter_105 : decode cX6_hashAfter 105 = .ok (.getfield 291, 3) := by decide +kernel
theorem dX6_hashAfter_108 : decode cX6_hashAfter 108 = .ok (.i2l, 1) := by decide +kernel
theorem dX6_hashAfter_109 : decode cX6_hashAfter 109 = .ok (.invokestatic 284, 3) := by decide +kernel
theorem dX6_hashAfter_112 : decode cX6_hashAfter 112 = .ok (.lstore_n 3, 1) := by decide +kernel
theorem dX6_hashAfter_113 : decode cX6_hashAfter 113 = .ok (.aload_n 0, 1) := by decide +kernel
theorem dX6_hashAfter_114 : decode cX6_hashAfter 114 = .ok (.getfield 71, 3) := by decide +kernel
theorem dX6_hashAfter_117 : decode cX6_hashAfter 117 = .ok (.lload_n 3, 1) := by decide +kernel
theorem dX6_hashAfter_118 : decode cX6_hashAfter 118 = .ok (.invokevirtual 294, 3) := by decide +kernel
theorem dX6_hashAfter_121 : decode cX6_hashAfter 121 = .ok (.lstore_n 3, 1) := by decide +kernel
theorem dX6_hashAfter_122 : decode cX6_hashAfter 122 = .ok (.aload_n 0, 1) := by decide +kernel
theorem dX6_hashAfter_123 : decode cX6_hashAfter 123 = .ok (.getfield 75, 3) := by decide +kernel
theorem dX6_hashAfter_126 : decode cX6_hashAfter 126 = .ok (.lload_n 3, 1) := by decide +kernel
theorem dX6_hashAfter_127 : decode cX6_hashAfter 127 = .ok (.invokevirtual 294, 3) := by decide +kernel
theorem dX6_hashAfter_130 : decode cX6_hashAfter 130 = .ok (.lstore_n 3, 1) := by decide +kernel
theorem dX6_hashAfter_131 : decode cX6_hashAfter 131 = .ok (.aload_n 0, 1) := by decide +kernel
theorem dX6_hashAfter_132 : decode cX6_hashAfter 132 = .ok (.getfield 78, 3) := by decide +kernel
theorem dX6_hashAfter_135 : decode cX6_hashAfter 135 = .ok (.lload_n 3, 1) := by decide +kernel
theorem dX6_hashAfter_136 : decode cX6_hashAfter 136 = .ok (.invokevirtual 294, 3) := by decide +kernel
theorem dX6_hashAfter_139 : decode cX6_hashAfter 139 = .ok (.lreturn, 1) := by decide +kernel
set_option maxRecDepth 20000 in
theorem ggX6_hashOfSettings_X9_hashed : GoodIn wsX6_hashOfSettings wsX9_hashed := goodIn_r _ [11, 12] (by decide +kernel) (by decide +kernel)
set_option maxRecDepth 20000 in
theorem gX6_hashOfSettings_X9_hashed_n284 : GoodIn wsX6_hashOfSettings (wsX9_hashed) := ggX6_hashOfSettings_X9_hashed
set_option maxRecDepth 20000 in
theorem ggX6_hashOfSettings_X6_transmitterAt : GoodIn wsX6_hashOfSettings wsX6_transmitterAt := goodIn_r _ [17, 18, 19, 20, 21, 38, 39, 40, 41, 42, 43, 44, 45, 46, 47, 48, 49, 50, 51, 52, 53, 54, 55, 56, 57] (by decide +kernel) (by decide +kernel)
set_option maxRecDepth 20000 in
theorem gX6_hashOfSettings_X6_transmitterAt : GoodIn wsX6_hashOfSettings (wsV RX6 167 RX6 yX6_transmitterAt wsX6_transmitterAt) := goodIn_app (goodIn_of _ (by decide +kernel)) ggX6_hashOfSettings_X6_transmitterAt
set_option maxRecDepth 20000 in
theorem ggX6_hashOfSettings_X8_hashAfter : GoodIn wsX6_hashOfSettings wsX8_hashAfter := goodIn_r _ [26, 27, 28, 29, 30, 9, 10, 11, 12, 65, 66, 67, 68, 69, 70] (by decide +kernel) (by decide +kernel)
set_option maxRecDepth 20000 in
theorem gX6_hashOfSettings_X8_hashAfter : GoodIn wsX6_hashOfSettings (wsV RX6 309 RX8 yX8_hashAfter wsX8_hashAfter) := goodIn_app (goodIn_of _ (by decide +kernel)) ggX6_hashOfSettings_X8_hashAfter
set_option maxRecDepth 20000 in
theorem ggX6_hashOfSettings_X3_hashOfTables : GoodIn wsX6_hashOfSettings wsX3_hashOfTables := goodIn_r _ [35, 36, 37, 9, 10, 11, 12, 58, 59, 60, 61] (by decide +kernel) (by decide +kernel)
set_option maxRecDepth 20000 in
theorem gX6_hashOfSettings_X3_hashOfTables : GoodIn wsX6_hashOfSettings (wsV RX6 310 RX3 yX3_hashOfTables wsX3_hashOfTables) := goodIn_app (goodIn_of _ (by decide +kernel)) ggX6_hashOfSettings_X3_hashOfTables
theorem dX6_hashOfSettings_0 : decode cX6_hashOfSettings 0 = .ok (.lload_n 1, 1) := by decide +kernel
theorem dX6_hashOfSettings_1 : decode cX6_hashOfSettings 1 = .ok (.aload_n 0, 1) := by decide +kernel
theorem dX6_hashOfSettings_2 : decode cX6_hashOfSettings 2 = .ok (.getfield 81, 3) := by decide +kernel
theorem dX6_hashOfSettings_5 : decode cX6_hashOfSettings 5 = .ok (.i2l, 1) := by decide +kernel
theorem dX6_hashOfSettings_6 : decode cX6_hashOfSettings 6 = .ok (.invokestatic 284, 3) := by decide +kernel
theorem dX6_hashOfSettings_9 : decode cX6_hashOfSettings 9 = .ok (.lstore_n 3, 1) := by decide +kernel
theorem dX6_hashOfSettings_10 : decode cX6_hashOfSettings 10 = .ok (.lload_n 3, 1) := by decide +kernel
theorem dX6_hashOfSettings_11 : decode cX6_hashOfSettings 11 = .ok (.aload_n 0, 1) := by decide +kernel
theorem dX6_hashOfSettings_12 : decode cX6_hashOfSettings 12 = .ok (.getfield 36, 3) := by decide +kernel
theorem dX6_hashOfSettings_15 : decode cX6_hashOfSettings 15 = .ok (.getfield 297, 3) := by decide +kernel
theorem dX6_hashOfSettings_18 : decode cX6_hashOfSettings 18 = .ok (.i2l, 1) := by decide +kernel
theorem dX6_hashOfSettings_19 : decode cX6_hashOfSettings 19 = .ok (.invokestatic 284, 3) := by decide +kernel
theorem dX6_hashOfSettings_22 : decode cX6_hashOfSettings 22 = .ok (.lstore_n 3, 1) := by decide +kernel
theorem dX6_hashOfSettings_23 : decode cX6_hashOfSettings 23 = .ok (.lload_n 3, 1) := by decide +kernel
theorem dX6_hashOfSettings_24 : decode cX6_hashOfSettings 24 = .ok (.aload_n 0, 1) := by decide +kernel
theorem dX6_hashOfSettings_25 : decode cX6_hashOfSettings 25 = .ok (.getfield 36, 3) := by decide +kernel
theorem dX6_hashOfSettings_28 : decode cX6_hashOfSettings 28 = .ok (.getfield 300, 3) := by decide +kernel
theorem dX6_hashOfSettings_31 : decode cX6_hashOfSettings 31 = .ok (.i2l, 1) := by decide +kernel
theorem dX6_hashOfSettings_32 : decode cX6_hashOfSettings 32 = .ok (.invokestatic 284, 3) := by decide +kernel
theorem dX6_hashOfSettings_35 : decode cX6_hashOfSettings 35 = .ok (.lstore_n 3, 1) := by decide +kernel
theorem dX6_hashOfSettings_36 : decode cX6_hashOfSettings 36 = .ok (.lload_n 3, 1) := by decide +kernel
theorem dX6_hashOfSettings_37 : decode cX6_hashOfSettings 37 = .ok (.aload_n 0, 1) := by decide +kernel
theorem dX6_hashOfSettings_38 : decode cX6_hashOfSettings 38 = .ok (.getfield 43, 3) := by decide +kernel
theorem dX6_hashOfSettings_41 : decode cX6_hashOfSettings 41 = .ok (.getfield 303, 3) := by decide +kernel
theorem dX6_hashOfSettings_44 : decode cX6_hashOfSettings 44 = .ok (.i2l, 1) := by decide +kernel
theorem dX6_hashOfSettings_45 : decode cX6_hashOfSettings 45 = .ok (.invokestatic 284, 3) := by decide +kernel
theorem dX6_hashOfSettings_48 : decode cX6_hashOfSettings 48 = .ok (.lstore_n 3, 1) := by decide +kernel
theorem dX6_hashOfSettings_49 : decode cX6_hashOfSettings 49 = .ok (.lload_n 3, 1) := by decide +kernel
theorem dX6_hashOfSettings_50 : decode cX6_hashOfSettings 50 = .ok (.aload_n 0, 1) := by decide +kernel
theorem dX6_hashOfSettings_51 : decode cX6_hashOfSettings 51 = .ok (.getfield 43, 3) := by decide +kernel
theorem dX6_hashOfSettings_54 : decode cX6_hashOfSettings 54 = .ok (.getfield 306, 3) := by decide +kernel
theorem dX6_hashOfSettings_57 : decode cX6_hashOfSettings 57 = .ok (.i2l, 1) := by decide +kernel
theorem dX6_hashOfSettings_58 : decode cX6_hashOfSettings 58 = .ok (.invokestatic 284, 3) := by decide +kernel
theorem dX6_hashOfSettings_61 : decode cX6_hashOfSettings 61 = .ok (.lstore_n 3, 1) := by decide +kernel
theorem dX6_hashOfSettings_62 : decode cX6_hashOfSettings 62 = .ok (.lload_n 3, 1) := by decide +kernel
theorem dX6_hashOfSettings_63 : decode cX6_hashOfSettings 63 = .ok (.aload_n 0, 1) := by decide +kernel
theorem dX6_hashOfSettings_64 : decode cX6_hashOfSettings 64 = .ok (.getfield 84, 3) := by decide +kernel
theorem dX6_hashOfSettings_67 : decode cX6_hashOfSettings 67 = .ok (.i2l, 1) := by decide +kernel
theorem dX6_hashOfSettings_68 : decode cX6_hashOfSettings 68 = .ok (.invokestatic 284, 3) := by decide +kernel
theorem dX6_hashOfSettings_71 : decode cX6_hashOfSettings 71 = .ok (.lstore_n 3, 1) := by decide +kernel
theorem dX6_hashOfSettings_72 : decode cX6_hashOfSettings 72 = .ok (.iconst 0, 1) := by decide +kernel
theorem dX6_hashOfSettings_73 : decode cX6_hashOfSettings 73 = .ok (.istore 5, 2) := by decide +kernel
theorem dX6_hashOfSettings_75 : decode cX6_hashOfSettings 75 = .ok (.iload 5, 2) := by decide +kernel
theorem dX6_hashOfSettings_77 : decode cX6_hashOfSettings 77 = .ok (.iconst 4, 1) := by decide +kernel
theorem dX6_hashOfSettings_78 : decode cX6_hashOfSettings 78 = .ok (.if_icmp .ge 20, 3) := by decide +kernel
theorem dX6_hashOfSettings_81 : decode cX6_hashOfSettings 81 = .ok (.aload_n 0, 1) := by decide +kernel
theorem dX6_hashOfSettings_82 : decode cX6_hashOfSettings 82 = .ok (.iload 5, 2) := by decide +kernel
theorem dX6_hashOfSettings_84 : decode cX6_hashOfSettings 84 = .ok (.invokevirtual 167, 3) := by decide +kernel
theorem dX6_hashOfSettings_87 : decode cX6_hashOfSettings 87 = .ok (.lload_n 3, 1) := by decide +kernel
theorem dX6_hashOfSettings_88 : decode cX6_hashOfSettings 88 = .ok (.invokevirtual 309, 3) := by decide +kernel
theorem dX6_hashOfSettings_91 : decode cX6_hashOfSettings 91 = .ok (.lstore_n 3, 1) := by decide +kernel
theorem dX6_hashOfSettings_92 : decode cX6_hashOfSettings 92 = .ok (.iinc 5 1, 3) := by decide +kernel
theorem dX6_hashOfSettings_95 : decode cX6_hashOfSettings 95 = .ok (.goto (-20), 3) := by decide +kernel
theorem dX6_hashOfSettings_98 : decode cX6_hashOfSettings 98 = .ok (.aload_n 0, 1) := by decide +kernel
theorem dX6_hashOfSettings_99 : decode cX6_hashOfSettings 99 = .ok (.getfield 36, 3) := by decide +kernel
theorem dX6_hashOfSettings_102 : decode cX6_hashOfSettings 102 = .ok (.lload_n 3, 1) := by decide +kernel
theorem dX6_hashOfSettings_103 : decode cX6_hashOfSettings 103 = .ok (.invokevirtual 310, 3) := by decide +kernel
theorem dX6_hashOfSettings_106 : decode cX6_hashOfSettings 106 = .ok (.lreturn, 1) := by decide +kernel
theorem dX7_init_0 : decode cX7_init 0 = .ok (.aload_n 0, 1) := by decide +kernel
theorem dX7_init_1 : decode cX7_init 1 = .ok (.invokespecial 1, 3) := by decide +kernel
theorem dX7_init_4 : decode cX7_init 4 = .ok (.return_, 1) := by decide +kernel
theorem dX7_copyFrom_0 : decode cX7_copyFrom 0 = .ok (.aload_n 0, 1) := by decide +kernel
theorem dX7_copyFrom_1 : decode cX7_copyFrom 1 = .ok (.aload_n 1, 1) := by decide +kernel
theorem dX7_copyFrom_2 : decode cX7_copyFrom 2 = .ok (.getfield 7, 3) := by decide +kernel
theorem dX7_copyFrom_5 : decode cX7_copyFrom 5 = .ok (.putfield 7, 3) := by decide +kernel
theorem dX7_copyFrom_8 : decode cX7_copyFrom 8 = .ok (.aload_n 0, 1) := by decide +kernel
theorem dX7_copyFrom_9 : decode cX7_copyFrom 9 = .ok (.aload_n 1, 1) := by decide +kernel
theorem dX7_copyFrom_10 : decode cX7_copyFrom 10 = .ok (.getfield 13, 3) := by decide +kernel
theorem dX7_copyFrom_13 : decode cX7_copyFrom 13 = .ok (.putfield 13, 3) := by decide +kernel
theorem dX7_copyFrom_16 : decode cX7_copyFrom 16 = .ok (.aload_n 0, 1) := by decide +kernel
theorem dX7_copyFrom_17 : decode cX7_copyFrom 17 = .ok (.aload_n 1, 1) := by decide +kernel
theorem dX7_copyFrom_18 : decode cX7_copyFrom 18 = .ok (.getfield 17, 3) := by decide +kernel
theorem dX7_copyFrom_21 : decode cX7_copyFrom 21 = .ok (.putfield 17, 3) := by decide +kernel
theorem dX7_copyFrom_24 : decode cX7_copyFrom 24 = .ok (.aload_n 0, 1) := by decide +kernel
theorem dX7_copyFrom_25 : decode cX7_copyFrom 25 = .ok (.aload_n 1, 1) := by decide +kernel
theorem dX7_copyFrom_26 : decode cX7_copyFrom 26 = .ok (.getfield 20, 3) := by decide +kernel
theorem dX7_copyFrom_29 : decode cX7_copyFrom 29 = .ok (.putfield 20, 3) := by decide +kernel
theorem dX7_copyFrom_32 : decode cX7_copyFrom 32 = .ok (.return_, 1) := by decide +kernel
theorem dX7_clear_0 : decode cX7_clear 0 = .ok (.aload_n 0, 1) := by decide +kernel
theorem dX7_clear_1 : decode cX7_clear 1 = .ok (.iconst 0, 1) := by decide +kernel
theorem dX7_clear_2 : decode cX7_clear 2 = .ok (.putfield 7, 3) := by decide +kernel
theorem dX7_clear_5 : decode cX7_clear 5 = .ok (.aload_n 0, 1) := by decide +kernel
theorem dX7_clear_6 : decode cX7_clear 6 = .ok (.lconst 0, 1) := by decide +kernel
theorem dX7_clear_7 : decode cX7_clear 7 = .ok (.putfield 13, 3) := by decide +kernel
theorem dX7_clear_10 : decode cX7_clear 10 = .ok (.aload_n 0, 1) := by decide +kernel
theorem dX7_clear_11 : decode cX7_clear 11 = .ok (.lconst 0, 1) := by decide +kernel
theorem dX7_clear_12 : decode cX7_clear 12 = .ok (.putfield 17, 3) := by decide +kernel
theorem dX7_clear_15 : decode cX7_clear 15 = .ok (.aload_n 0, 1) := by decide +kernel
theorem dX7_clear_16 : decode cX7_clear 16 = .ok (.lconst 0, 1) := by decide +kernel
theorem dX7_clear_17 : decode cX7_clear 17 = .ok (.putfield 20, 3) := by decide +kernel
theorem dX7_clear_20 : decode cX7_clear 20 = .ok (.return_, 1) := by decide +kernel
theorem dX7_add_0 : decode cX7_add 0 = .ok (.aload_n 0, 1) := by decide +kernel
theorem dX7_add_1 : decode cX7_add 1 = .ok (.dup, 1) := by decide +kernel
theorem dX7_add_2 : decode cX7_add 2 = .ok (.getfield 7, 3) := by decide +kernel
theorem dX7_add_5 : decode cX7_add 5 = .ok (.iconst 1, 1) := by decide +kernel
theorem dX7_add_6 : decode cX7_add 6 = .ok (.iadd, 1) := by decide +kernel
theorem dX7_add_7 : decode cX7_add 7 = .ok (.putfield 7, 3) := by decide +kernel
theorem dX7_add_10 : decode cX7_add 10 = .ok (.aload_n 0, 1) := by decide +kernel
theorem dX7_add_11 : decode cX7_add 11 = .ok (.dup, 1) := by decide +kernel
theorem dX7_add_12 : decode cX7_add 12 = .ok (.getfield 13, 3) := by decide +kernel
theorem dX7_add_15 : decode cX7_add 15 = .ok (.iload_n 1, 1) := by decide +kernel
theorem dX7_add_16 : decode cX7_add 16 = .ok (.i2l, 1) := by decide +kernel
theorem dX7_add_17 : decode cX7_add 17 = .ok (.ladd, 1) := by decide +kernel
theorem dX7_add_18 : decode cX7_add 18 = .ok (.putfield 13, 3) := by decide +kernel
theorem dX7_add_21 : decode cX7_add 21 = .ok (.aload_n 0, 1) := by decide +kernel
theorem dX7_add_22 : decode cX7_add 22 = .ok (.dup, 1) := by decide +kernel
theorem dX7_add_23 : decode cX7_add 23 = .ok (.getfield 17, 3) := by decide +kernel
theorem dX7_add_26 : decode cX7_add 26 = .ok (.iload_n 2, 1) := by decide +kernel
theorem dX7_add_27 : decode cX7_add 27 = .ok (.i2l, 1) := by decide +kernel
theorem dX7_add_28 : decode cX7_add 28 = .ok (.ladd, 1) := by decide +kernel
theorem dX7_add_29 : decode cX7_add 29 = .ok (.putfield 17, 3) := by decide +kernel
theorem dX7_add_32 : decode cX7_add 32 = .ok (.aload_n 0, 1) := by decide +kernel
theorem dX7_add_33 : decode cX7_add 33 = .ok (.dup, 1) := by decide +kernel
theorem dX7_add_34 : decode cX7_add 34 = .ok (.getfield 20, 3) := by decide +kernel
theorem dX7_add_37 : decode cX7_add 37 = .ok (.iload_n 3, 1) := by decide +kernel
theorem dX7_add_38 : decode cX7_add 38 = .ok (.i2l, 1) := by decide +kernel
theorem dX7_add_39 : decode cX7_add 39 = .ok (.ladd, 1) := by decide +kernel
theorem dX7_add_40 : decode cX7_add 40 = .ok (.putfield 20, 3) := by decide +kernel
theorem dX7_add_43 : decode cX7_add 43 = .ok (.return_, 1) := by decide +kernel
set_option maxRecDepth 20000 in
theorem ggX7_mean_J9_floorDiv_f86c9 : GoodIn wsX7_mean wsJ9_floorDiv_f86c9 := goodIn_r _ [5] (by decide +kernel) (by decide +kernel)
set_option maxRecDepth 20000 in
theorem gX7_mean_J9_floorDiv_f86c9 : GoodIn wsX7_mean (va_wsS RX7 23 yJ9_floorDiv_f86c9 wsJ9_floorDiv_f86c9) := goodIn_app (goodIn_of _ (by decide +kernel)) ggX7_mean_J9_floorDiv_f86c9
theorem dX7_mean_0 : decode cX7_mean 0 = .ok (.aload_n 0, 1) := by decide +kernel
theorem dX7_mean_1 : decode cX7_mean 1 = .ok (.getfield 7, 3) := by decide +kernel
theorem dX7_mean_4 : decode cX7_mean 4 = .ok (.ifCond .le 15, 3) := by decide +kernel
theorem dX7_mean_7 : decode cX7_mean 7 = .ok (.lload_n 1, 1) := by decide +kernel
theorem dX7_mean_8 : decode cX7_mean 8 = .ok (.aload_n 0, 1) := by decide +kernel
theorem dX7_mean_9 : decode cX7_mean 9 = .ok (.getfield 7, 3) := by decide +kernel
theorem dX7_mean_12 : decode cX7_mean 12 = .ok (.i2l, 1) := by decide +kernel
theorem dX7_mean_13 : decode cX7_mean 13 = .ok (.invokestatic 23, 3) := by decide +kernel
theorem dX7_mean_16 : decode cX7_mean 16 = .ok (.goto 4, 3) := by decide +kernel
theorem dX7_mean_19 : decode cX7_mean 19 = .ok (.lconst 0, 1) := by decide +kernel
theorem dX7_mean_20 : decode cX7_mean 20 = .ok (.lreturn, 1) := by decide +kernel
theorem dX8_init_0 : decode cX8_init 0 = .ok (.aload_n 0, 1) := by decide +kernel
theorem dX8_init_1 : decode cX8_init 1 = .ok (.invokespecial 3, 3) := by decide +kernel
theorem dX8_init_4 : decode cX8_init 4 = .ok (.aload_n 0, 1) := by decide +kernel
theorem dX8_init_5 : decode cX8_init 5 = .ok (.sipush 13107, 3) := by decide +kernel
theorem dX8_init_8 : decode cX8_init 8 = .ok (.putfield 9, 3) := by decide +kernel
theorem dX8_init_11 : decode cX8_init 11 = .ok (.aload_n 0, 1) := by decide +kernel
theorem dX8_init_12 : decode cX8_init 12 = .ok (.iload_n 1, 1) := by decide +kernel
theorem dX8_init_13 : decode cX8_init 13 = .ok (.putfield 15, 3) := by decide +kernel
theorem dX8_init_16 : decode cX8_init 16 = .ok (.aload_n 0, 1) := by decide +kernel
theorem dX8_init_17 : decode cX8_init 17 = .ok (.iload_n 2, 1) := by decide +kernel
theorem dX8_init_18 : decode cX8_init 18 = .ok (.putfield 18, 3) := by decide +kernel
theorem dX8_init_21 : decode cX8_init 21 = .ok (.aload_n 0, 1) := by decide +kernel
theorem dX8_init_22 : decode cX8_init 22 = .ok (.iload_n 2, 1) := by decide +kernel
theorem dX8_init_23 : decode cX8_init 23 = .ok (.putfield 21, 3) := by decide +kernel
theorem dX8_init_26 : decode cX8_init 26 = .ok (.return_, 1) := by decide +kernel

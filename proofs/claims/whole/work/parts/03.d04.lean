theorem dX10_senses_35 : decode cX10_senses 35 = .ok (.aload_n 0, 1) := by decide +kernel
theorem dX10_senses_36 : decode cX10_senses 36 = .ok (.lload_n 2, 1) := by decide +kernel
theorem dX10_senses_37 : decode cX10_senses 37 = .ok (.lconst 1, 1) := by decide +kernel
theorem dX10_senses_38 : decode cX10_senses 38 = .ok (.lcmp, 1) := by decide +kernel
theorem dX10_senses_39 : decode cX10_senses 39 = .ok (.ifCond .ne 7, 3) := by decide +kernel
theorem dX10_senses_42 : decode cX10_senses 42 = .ok (.iconst 0, 1) := by decide +kernel
theorem dX10_senses_43 : decode cX10_senses 43 = .ok (.goto 4, 3) := by decide +kernel
theorem dX10_senses_46 : decode cX10_senses 46 = .ok (.iconst 1, 1) := by decide +kernel
theorem dX10_senses_47 : decode cX10_senses 47 = .ok (.iload_n 1, 1) := by decide +kernel
theorem dX10_senses_48 : decode cX10_senses 48 = .ok (.i2l, 1) := by decide +kernel
theorem dX10_senses_49 : decode cX10_senses 49 = .ok (.invokevirtual 44, 3) := by decide +kernel
theorem dX10_senses_52 : decode cX10_senses 52 = .ok (.aload_n 0, 1) := by decide +kernel
theorem dX10_senses_53 : decode cX10_senses 53 = .ok (.getfield 7, 3) := by decide +kernel
theorem dX10_senses_56 : decode cX10_senses 56 = .ok (.bipush 22, 2) := by decide +kernel
theorem dX10_senses_58 : decode cX10_senses 58 = .ok (.iload_n 1, 1) := by decide +kernel
theorem dX10_senses_59 : decode cX10_senses 59 = .ok (.iadd, 1) := by decide +kernel
theorem dX10_senses_60 : decode cX10_senses 60 = .ok (.lload_n 2, 1) := by decide +kernel
theorem dX10_senses_61 : decode cX10_senses 61 = .ok (.lastore, 1) := by decide +kernel
theorem dX10_senses_62 : decode cX10_senses 62 = .ok (.lload_n 2, 1) := by decide +kernel
theorem dX10_senses_63 : decode cX10_senses 63 = .ok (.lconst 0, 1) := by decide +kernel
theorem dX10_senses_64 : decode cX10_senses 64 = .ok (.lcmp, 1) := by decide +kernel
theorem dX10_senses_65 : decode cX10_senses 65 = .ok (.ifCond .ne 45, 3) := by decide +kernel
theorem dX10_senses_68 : decode cX10_senses 68 = .ok (.aload_n 0, 1) := by decide +kernel
theorem dX10_senses_69 : decode cX10_senses 69 = .ok (.getfield 7, 3) := by decide +kernel
theorem dX10_senses_72 : decode cX10_senses 72 = .ok (.bipush 18, 2) := by decide +kernel
theorem dX10_senses_74 : decode cX10_senses 74 = .ok (.iload_n 1, 1) := by decide +kernel
theorem dX10_senses_75 : decode cX10_senses 75 = .ok (.iadd, 1) := by decide +kernel
theorem dX10_senses_76 : decode cX10_senses 76 = .ok (.dup2, 1) := by decide +kernel
theorem dX10_senses_77 : decode cX10_senses 77 = .ok (.laload, 1) := by decide +kernel
theorem dX10_senses_78 : decode cX10_senses 78 = .ok (.aload_n 0, 1) := by decide +kernel
theorem dX10_senses_79 : decode cX10_senses 79 = .ok (.iload_n 1, 1) := by decide +kernel
theorem dX10_senses_80 : decode cX10_senses 80 = .ok (.invokevirtual 88, 3) := by decide +kernel
theorem dX10_senses_83 : decode cX10_senses 83 = .ok (.aload_n 0, 1) := by decide +kernel
theorem dX10_senses_84 : decode cX10_senses 84 = .ok (.getfield 7, 3) := by decide +kernel
theorem dX10_senses_87 : decode cX10_senses 87 = .ok (.bipush 18, 2) := by decide +kernel
theorem dX10_senses_89 : decode cX10_senses 89 = .ok (.iload_n 1, 1) := by decide +kernel
theorem dX10_senses_90 : decode cX10_senses 90 = .ok (.iadd, 1) := by decide +kernel
theorem dX10_senses_91 : decode cX10_senses 91 = .ok (.laload, 1) := by decide +kernel
theorem dX10_senses_92 : decode cX10_senses 92 = .ok (.lsub, 1) := by decide +kernel
theorem dX10_senses_93 : decode cX10_senses 93 = .ok (.lconst 1, 1) := by decide +kernel
theorem dX10_senses_94 : decode cX10_senses 94 = .ok (.aload_n 0, 1) := by decide +kernel
theorem dX10_senses_95 : decode cX10_senses 95 = .ok (.getfield 7, 3) := by decide +kernel
theorem dX10_senses_98 : decode cX10_senses 98 = .ok (.bipush 10, 2) := by decide +kernel
theorem dX10_senses_100 : decode cX10_senses 100 = .ok (.iload_n 1, 1) := by decide +kernel
theorem dX10_senses_101 : decode cX10_senses 101 = .ok (.iadd, 1) := by decide +kernel
theorem dX10_senses_102 : decode cX10_senses 102 = .ok (.laload, 1) := by decide +kernel
theorem dX10_senses_103 : decode cX10_senses 103 = .ok (.l2i, 1) := by decide +kernel
theorem dX10_senses_104 : decode cX10_senses 104 = .ok (.lshl, 1) := by decide +kernel
theorem dX10_senses_105 : decode cX10_senses 105 = .ok (.invokestatic 94, 3) := by decide +kernel
theorem dX10_senses_108 : decode cX10_senses 108 = .ok (.ladd, 1) := by decide +kernel
theorem dX10_senses_109 : decode cX10_senses 109 = .ok (.lastore, 1) := by decide +kernel
theorem dX10_senses_110 : decode cX10_senses 110 = .ok (.iinc 1 1, 3) := by decide +kernel
theorem dX10_senses_113 : decode cX10_senses 113 = .ok (.goto (-111), 3) := by decide +kernel
theorem dX10_senses_116 : decode cX10_senses 116 = .ok (.return_, 1) := by decide +kernel
set_option maxRecDepth 20000 in
theorem ggX10_chosen_X10_isFaulty : GoodIn wsX10_chosen wsX10_isFaulty := goodIn_r _ [9, 1, 10, 11, 12, 13, 14, 15] (by decide +kernel) (by decide +kernel)
set_option maxRecDepth 20000 in
theorem gX10_chosen_X10_isFaulty : GoodIn wsX10_chosen (wsV RX10 135 RX10 yX10_isFaulty wsX10_isFaulty) := goodIn_app (goodIn_of _ (by decide +kernel)) ggX10_chosen_X10_isFaulty
theorem dX10_chosen_0 : decode cX10_chosen 0 = .ok (.aload_n 0, 1) := by decide +kernel
theorem dX10_chosen_1 : decode cX10_chosen 1 = .ok (.iconst 0, 1) := by decide +kernel
theorem dX10_chosen_2 : decode cX10_chosen 2 = .ok (.invokevirtual 135, 3) := by decide +kernel
theorem dX10_chosen_5 : decode cX10_chosen 5 = .ok (.ifCond .ne 11, 3) := by decide +kernel
theorem dX10_chosen_8 : decode cX10_chosen 8 = .ok (.aload_n 0, 1) := by decide +kernel
theorem dX10_chosen_9 : decode cX10_chosen 9 = .ok (.iconst 1, 1) := by decide +kernel
theorem dX10_chosen_10 : decode cX10_chosen 10 = .ok (.invokevirtual 135, 3) := by decide +kernel
theorem dX10_chosen_13 : decode cX10_chosen 13 = .ok (.ifCond .eq 43, 3) := by decide +kernel
theorem dX10_chosen_16 : decode cX10_chosen 16 = .ok (.aload_n 0, 1) := by decide +kernel
theorem dX10_chosen_17 : decode cX10_chosen 17 = .ok (.iconst 0, 1) := by decide +kernel
theorem dX10_chosen_18 : decode cX10_chosen 18 = .ok (.invokevirtual 135, 3) := by decide +kernel
theorem dX10_chosen_21 : decode cX10_chosen 21 = .ok (.ifCond .eq 21, 3) := by decide +kernel
theorem dX10_chosen_24 : decode cX10_chosen 24 = .ok (.aload_n 0, 1) := by decide +kernel
theorem dX10_chosen_25 : decode cX10_chosen 25 = .ok (.iconst 1, 1) := by decide +kernel
theorem dX10_chosen_26 : decode cX10_chosen 26 = .ok (.invokevirtual 135, 3) := by decide +kernel
theorem dX10_chosen_29 : decode cX10_chosen 29 = .ok (.ifCond .eq 13, 3) := by decide +kernel
theorem dX10_chosen_32 : decode cX10_chosen 32 = .ok (.aload_n 0, 1) := by decide +kernel
theorem dX10_chosen_33 : decode cX10_chosen 33 = .ok (.getfield 7, 3) := by decide +kernel
theorem dX10_chosen_36 : decode cX10_chosen 36 = .ok (.bipush 37, 2) := by decide +kernel
theorem dX10_chosen_38 : decode cX10_chosen 38 = .ok (.laload, 1) := by decide +kernel
theorem dX10_chosen_39 : decode cX10_chosen 39 = .ok (.goto 16, 3) := by decide +kernel
theorem dX10_chosen_42 : decode cX10_chosen 42 = .ok (.aload_n 0, 1) := by decide +kernel
theorem dX10_chosen_43 : decode cX10_chosen 43 = .ok (.iconst 0, 1) := by decide +kernel
theorem dX10_chosen_44 : decode cX10_chosen 44 = .ok (.invokevirtual 135, 3) := by decide +kernel
theorem dX10_chosen_47 : decode cX10_chosen 47 = .ok (.ifCond .eq 7, 3) := by decide +kernel
theorem dX10_chosen_50 : decode cX10_chosen 50 = .ok (.lconst 1, 1) := by decide +kernel
theorem dX10_chosen_51 : decode cX10_chosen 51 = .ok (.goto 4, 3) := by decide +kernel
theorem dX10_chosen_54 : decode cX10_chosen 54 = .ok (.lconst 0, 1) := by decide +kernel
theorem dX10_chosen_55 : decode cX10_chosen 55 = .ok (.lreturn, 1) := by decide +kernel
theorem dX10_chosen_56 : decode cX10_chosen 56 = .ok (.aload_n 0, 1) := by decide +kernel
theorem dX10_chosen_57 : decode cX10_chosen 57 = .ok (.getfield 7, 3) := by decide +kernel
theorem dX10_chosen_60 : decode cX10_chosen 60 = .ok (.bipush 37, 2) := by decide +kernel
theorem dX10_chosen_62 : decode cX10_chosen 62 = .ok (.laload, 1) := by decide +kernel
theorem dX10_chosen_63 : decode cX10_chosen 63 = .ok (.lconst 0, 1) := by decide +kernel
theorem dX10_chosen_64 : decode cX10_chosen 64 = .ok (.lcmp, 1) := by decide +kernel
theorem dX10_chosen_65 : decode cX10_chosen 65 = .ok (.ifCond .ne 35, 3) := by decide +kernel
theorem dX10_chosen_68 : decode cX10_chosen 68 = .ok (.aload_n 0, 1) := by decide +kernel
theorem dX10_chosen_69 : decode cX10_chosen 69 = .ok (.getfield 7, 3) := by decide +kernel
theorem dX10_chosen_72 : decode cX10_chosen 72 = .ok (.bipush 18, 2) := by decide +kernel
theorem dX10_chosen_74 : decode cX10_chosen 74 = .ok (.laload, 1) := by decide +kernel
theorem dX10_chosen_75 : decode cX10_chosen 75 = .ok (.ldc2_w 138, 3) := by decide +kernel
theorem dX10_chosen_78 : decode cX10_chosen 78 = .ok (.aload_n 0, 1) := by decide +kernel
theorem dX10_chosen_79 : decode cX10_chosen 79 = .ok (.getfield 7, 3) := by decide +kernel
theorem dX10_chosen_82 : decode cX10_chosen 82 = .ok (.bipush 6, 2) := by decide +kernel
theorem dX10_chosen_84 : decode cX10_chosen 84 = .ok (.laload, 1) := by decide +kernel
theorem dX10_chosen_85 : decode cX10_chosen 85 = .ok (.lmul, 1) := by decide +kernel
theorem dX10_chosen_86 : decode cX10_chosen 86 = .ok (.ldc2_w 62, 3) := by decide +kernel
theorem dX10_chosen_89 : decode cX10_chosen 89 = .ok (.ldiv, 1) := by decide +kernel
theorem dX10_chosen_90 : decode cX10_chosen 90 = .ok (.lcmp, 1) := by decide +kernel
theorem dX10_chosen_91 : decode cX10_chosen 91 = .ok (.ifCond .lt 7, 3) := by decide +kernel
theorem dX10_chosen_94 : decode cX10_chosen 94 = .ok (.lconst 1, 1) := by decide +kernel
theorem dX10_chosen_95 : decode cX10_chosen 95 = .ok (.goto 4, 3) := by decide +kernel
theorem dX10_chosen_98 : decode cX10_chosen 98 = .ok (.lconst 0, 1) := by decide +kernel
theorem dX10_chosen_99 : decode cX10_chosen 99 = .ok (.lreturn, 1) := by decide +kernel
theorem dX10_chosen_100 : decode cX10_chosen 100 = .ok (.aload_n 0, 1) := by decide +kernel
theorem dX10_chosen_101 : decode cX10_chosen 101 = .ok (.getfield 7, 3) := by decide +kernel
theorem dX10_chosen_104 : decode cX10_chosen 104 = .ok (.bipush 19, 2) := by decide +kernel
theorem dX10_chosen_106 : decode cX10_chosen 106 = .ok (.laload, 1) := by decide +kernel
theorem dX10_chosen_107 : decode cX10_chosen 107 = .ok (.ldc2_w 140, 3) := by decide +kernel
theorem dX10_chosen_110 : decode cX10_chosen 110 = .ok (.aload_n 0, 1) := by decide +kernel
theorem dX10_chosen_111 : decode cX10_chosen 111 = .ok (.getfield 7, 3) := by decide +kernel
theorem dX10_chosen_114 : decode cX10_chosen 114 = .ok (.bipush 6, 2) := by decide +kernel
theorem dX10_chosen_116 : decode cX10_chosen 116 = .ok (.laload, 1) := by decide +kernel
theorem dX10_chosen_117 : decode cX10_chosen 117 = .ok (.lmul, 1) := by decide +kernel
theorem dX10_chosen_118 : decode cX10_chosen 118 = .ok (.ldc2_w 62, 3) := by decide +kernel
theorem dX10_chosen_121 : decode cX10_chosen 121 = .ok (.ldiv, 1) := by decide +kernel
theorem dX10_chosen_122 : decode cX10_chosen 122 = .ok (.lcmp, 1) := by decide +kernel
theorem dX10_chosen_123 : decode cX10_chosen 123 = .ok (.ifCond .ge 7, 3) := by decide +kernel
theorem dX10_chosen_126 : decode cX10_chosen 126 = .ok (.lconst 0, 1) := by decide +kernel
theorem dX10_chosen_127 : decode cX10_chosen 127 = .ok (.goto 4, 3) := by decide +kernel
theorem dX10_chosen_130 : decode cX10_chosen 130 = .ok (.lconst 1, 1) := by decide +kernel
theorem dX10_chosen_131 : decode cX10_chosen 131 = .ok (.lreturn, 1) := by decide +kernel
set_option maxRecDepth 20000 in
theorem ggX10_ranges_X10_chosen : GoodIn wsX10_ranges wsX10_chosen := goodIn_r _ [8, 1, 9, 10, 11, 12, 13, 14, 7, 15, 16, 25, 26, 27, 28, 29] (by decide +kernel) (by decide +kernel)
set_option maxRecDepth 20000 in
theorem gX10_ranges_X10_chosen : GoodIn wsX10_ranges (wsV RX10 142 RX10 yX10_chosen wsX10_chosen) := goodIn_app (goodIn_of _ (by decide +kernel)) ggX10_ranges_X10_chosen
set_option maxRecDepth 20000 in
theorem ggX10_ranges_X10_logs : GoodIn wsX10_ranges wsX10_logs := goodIn_r _ [20, 1, 21, 22, 23, 7, 24, 25, 26, 27, 28, 29] (by decide +kernel) (by decide +kernel)
set_option maxRecDepth 20000 in
theorem gX10_ranges_X10_logs : GoodIn wsX10_ranges (wsV RX10 44 RX10 yX10_logs wsX10_logs) := goodIn_app (goodIn_of _ (by decide +kernel)) ggX10_ranges_X10_logs
set_option maxRecDepth 20000 in
theorem ggX10_ranges_X10_isFaulty : GoodIn wsX10_ranges wsX10_isFaulty := goodIn_r _ [15, 1, 16, 25, 26, 27, 28, 29] (by decide +kernel) (by decide +kernel)
set_option maxRecDepth 20000 in
theorem gX10_ranges_X10_isFaulty : GoodIn wsX10_ranges (wsV RX10 135 RX10 yX10_isFaulty wsX10_isFaulty) := goodIn_app (goodIn_of _ (by decide +kernel)) ggX10_ranges_X10_isFaulty
theorem dX10_ranges_0 : decode cX10_ranges 0 = .ok (.aload_n 0, 1) := by decide +kernel
theorem dX10_ranges_1 : decode cX10_ranges 1 = .ok (.invokevirtual 142, 3) := by decide +kernel
theorem dX10_ranges_4 : decode cX10_ranges 4 = .ok (.lstore_n 1, 1) := by decide +kernel
theorem dX10_ranges_5 : decode cX10_ranges 5 = .ok (.lload_n 1, 1) := by decide +kernel
theorem dX10_ranges_6 : decode cX10_ranges 6 = .ok (.aload_n 0, 1) := by decide +kernel
theorem dX10_ranges_7 : decode cX10_ranges 7 = .ok (.getfield 7, 3) := by decide +kernel
theorem dX10_ranges_10 : decode cX10_ranges 10 = .ok (.bipush 37, 2) := by decide +kernel
theorem dX10_ranges_12 : decode cX10_ranges 12 = .ok (.laload, 1) := by decide +kernel
theorem dX10_ranges_13 : decode cX10_ranges 13 = .ok (.lcmp, 1) := by decide +kernel
theorem dX10_ranges_14 : decode cX10_ranges 14 = .ok (.ifCond .eq 17, 3) := by decide +kernel
theorem dX10_ranges_17 : decode cX10_ranges 17 = .ok (.aload_n 0, 1) := by decide +kernel
theorem dX10_ranges_18 : decode cX10_ranges 18 = .ok (.getfield 7, 3) := by decide +kernel
theorem dX10_ranges_21 : decode cX10_ranges 21 = .ok (.bipush 37, 2) := by decide +kernel
theorem dX10_ranges_23 : decode cX10_ranges 23 = .ok (.lload_n 1, 1) := by decide +kernel
theorem dX10_ranges_24 : decode cX10_ranges 24 = .ok (.lastore, 1) := by decide +kernel
theorem dX10_ranges_25 : decode cX10_ranges 25 = .ok (.aload_n 0, 1) := by decide +kernel
theorem dX10_ranges_26 : decode cX10_ranges 26 = .ok (.iconst 2, 1) := by decide +kernel
theorem dX10_ranges_27 : decode cX10_ranges 27 = .ok (.lload_n 1, 1) := by decide +kernel
theorem dX10_ranges_28 : decode cX10_ranges 28 = .ok (.invokevirtual 44, 3) := by decide +kernel
theorem dX10_ranges_31 : decode cX10_ranges 31 = .ok (.aload_n 0, 1) := by decide +kernel
theorem dX10_ranges_32 : decode cX10_ranges 32 = .ok (.iconst 0, 1) := by decide +kernel
theorem dX10_ranges_33 : decode cX10_ranges 33 = .ok (.invokevirtual 135, 3) := by decide +kernel
theorem dX10_ranges_36 : decode cX10_ranges 36 = .ok (.ifCond .eq 77, 3) := by decide +kernel
theorem dX10_ranges_39 : decode cX10_ranges 39 = .ok (.aload_n 0, 1) := by decide +kernel
theorem dX10_ranges_40 : decode cX10_ranges 40 = .ok (.iconst 1, 1) := by decide +kernel
theorem dX10_ranges_41 : decode cX10_ranges 41 = .ok (.invokevirtual 135, 3) := by decide +kernel
theorem dX10_ranges_44 : decode cX10_ranges 44 = .ok (.ifCond .eq 69, 3) := by decide +kernel
theorem dX10_ranges_47 : decode cX10_ranges 47 = .ok (.aload_n 0, 1) := by decide +kernel
theorem dX10_ranges_48 : decode cX10_ranges 48 = .ok (.getfield 7, 3) := by decide +kernel
theorem dX10_ranges_51 : decode cX10_ranges 51 = .ok (.bipush 38, 2) := by decide +kernel
theorem dX10_ranges_53 : decode cX10_ranges 53 = .ok (.dup2, 1) := by decide +kernel
theorem dX10_ranges_54 : decode cX10_ranges 54 = .ok (.laload, 1) := by decide +kernel
theorem dX10_ranges_55 : decode cX10_ranges 55 = .ok (.lconst 1, 1) := by decide +kernel
theorem dX10_ranges_56 : decode cX10_ranges 56 = .ok (.ladd, 1) := by decide +kernel
theorem dX10_ranges_57 : decode cX10_ranges 57 = .ok (.lastore, 1) := by decide +kernel
theorem dX10_ranges_58 : decode cX10_ranges 58 = .ok (.aload_n 0, 1) := by decide +kernel
theorem dX10_ranges_59 : decode cX10_ranges 59 = .ok (.getfield 7, 3) := by decide +kernel
theorem dX10_ranges_62 : decode cX10_ranges 62 = .ok (.bipush 38, 2) := by decide +kernel
theorem dX10_ranges_64 : decode cX10_ranges 64 = .ok (.laload, 1) := by decide +kernel
theorem dX10_ranges_65 : decode cX10_ranges 65 = .ok (.ldc2_w 146, 3) := by decide +kernel
theorem dX10_ranges_68 : decode cX10_ranges 68 = .ok (.lcmp, 1) := by decide +kernel
theorem dX10_ranges_69 : decode cX10_ranges 69 = .ok (.ifCond .ne 9, 3) := by decide +kernel
theorem dX10_ranges_72 : decode cX10_ranges 72 = .ok (.aload_n 0, 1) := by decide +kernel
theorem dX10_ranges_73 : decode cX10_ranges 73 = .ok (.iconst 3, 1) := by decide +kernel
theorem dX10_ranges_74 : decode cX10_ranges 74 = .ok (.lconst 0, 1) := by decide +kernel
theorem dX10_ranges_75 : decode cX10_ranges 75 = .ok (.invokevirtual 44, 3) := by decide +kernel
theorem dX10_ranges_78 : decode cX10_ranges 78 = .ok (.aload_n 0, 1) := by decide +kernel
theorem dX10_ranges_79 : decode cX10_ranges 79 = .ok (.getfield 7, 3) := by decide +kernel
theorem dX10_ranges_82 : decode cX10_ranges 82 = .ok (.bipush 39, 2) := by decide +kernel
theorem dX10_ranges_84 : decode cX10_ranges 84 = .ok (.aload_n 0, 1) := by decide +kernel
theorem dX10_ranges_85 : decode cX10_ranges 85 = .ok (.getfield 7, 3) := by decide +kernel
theorem dX10_ranges_88 : decode cX10_ranges 88 = .ok (.bipush 38, 2) := by decide +kernel
theorem dX10_ranges_90 : decode cX10_ranges 90 = .ok (.laload, 1) := by decide +kernel
theorem dX10_ranges_91 : decode cX10_ranges 91 = .ok (.ldc2_w 148, 3) := by decide +kernel
theorem dX10_ranges_94 : decode cX10_ranges 94 = .ok (.lcmp, 1) := by decide +kernel
theorem dX10_ranges_95 : decode cX10_ranges 95 = .ok (.ifCond .le 7, 3) := by decide +kernel
theorem dX10_ranges_98 : decode cX10_ranges 98 = .ok (.lconst 0, 1) := by decide +kernel
theorem dX10_ranges_99 : decode cX10_ranges 99 = .ok (.goto 10, 3) := by decide +kernel
theorem dX10_ranges_102 : decode cX10_ranges 102 = .ok (.aload_n 0, 1) := by decide +kernel
theorem dX10_ranges_103 : decode cX10_ranges 103 = .ok (.getfield 7, 3) := by decide +kernel
theorem dX10_ranges_106 : decode cX10_ranges 106 = .ok (.bipush 39, 2) := by decide +kernel
theorem dX10_ranges_108 : decode cX10_ranges 108 = .ok (.laload, 1) := by decide +kernel
theorem dX10_ranges_109 : decode cX10_ranges 109 = .ok (.lastore, 1) := by decide +kernel
theorem dX10_ranges_110 : decode cX10_ranges 110 = .ok (.goto 46, 3) := by decide +kernel
theorem dX10_ranges_113 : decode cX10_ranges 113 = .ok (.aload_n 0, 1) := by decide +kernel
theorem dX10_ranges_114 : decode cX10_ranges 114 = .ok (.getfield 7, 3) := by decide +kernel
theorem dX10_ranges_117 : decode cX10_ranges 117 = .ok (.bipush 38, 2) := by decide +kernel
theorem dX10_ranges_119 : decode cX10_ranges 119 = .ok (.lconst 0, 1) := by decide +kernel
theorem dX10_ranges_120 : decode cX10_ranges 120 = .ok (.lastore, 1) := by decide +kernel
theorem dX10_ranges_121 : decode cX10_ranges 121 = .ok (.aload_n 0, 1) := by decide +kernel
theorem dX10_ranges_122 : decode cX10_ranges 122 = .ok (.getfield 7, 3) := by decide +kernel
theorem dX10_ranges_125 : decode cX10_ranges 125 = .ok (.bipush 18, 2) := by decide +kernel
theorem dX10_ranges_127 : decode cX10_ranges 127 = .ok (.aload_n 0, 1) := by decide +kernel
theorem dX10_ranges_128 : decode cX10_ranges 128 = .ok (.getfield 7, 3) := by decide +kernel
theorem dX10_ranges_131 : decode cX10_ranges 131 = .ok (.bipush 37, 2) := by decide +kernel
theorem dX10_ranges_133 : decode cX10_ranges 133 = .ok (.laload, 1) := by decide +kernel
theorem dX10_ranges_134 : decode cX10_ranges 134 = .ok (.l2i, 1) := by decide +kernel
theorem dX10_ranges_135 : decode cX10_ranges 135 = .ok (.iadd, 1) := by decide +kernel
theorem dX10_ranges_136 : decode cX10_ranges 136 = .ok (.laload, 1) := by decide +kernel
theorem dX10_ranges_137 : decode cX10_ranges 137 = .ok (.lstore_n 3, 1) := by decide +kernel
theorem dX10_ranges_138 : decode cX10_ranges 138 = .ok (.aload_n 0, 1) := by decide +kernel
theorem dX10_ranges_139 : decode cX10_ranges 139 = .ok (.getfield 7, 3) := by decide +kernel
theorem dX10_ranges_142 : decode cX10_ranges 142 = .ok (.bipush 39, 2) := by decide +kernel
theorem dX10_ranges_144 : decode cX10_ranges 144 = .ok (.lload_n 3, 1) := by decide +kernel
theorem dX10_ranges_145 : decode cX10_ranges 145 = .ok (.lconst 0, 1) := by decide +kernel
theorem dX10_ranges_146 : decode cX10_ranges 146 = .ok (.lcmp, 1) := by decide +kernel
theorem dX10_ranges_147 : decode cX10_ranges 147 = .ok (.ifCond .le 7, 3) := by decide +kernel
theorem dX10_ranges_150 : decode cX10_ranges 150 = .ok (.lload_n 3, 1) := by decide +kernel
theorem dX10_ranges_151 : decode cX10_ranges 151 = .ok (.goto 4, 3) := by decide +kernel
theorem dX10_ranges_154 : decode cX10_ranges 154 = .ok (.lconst 0, 1) := by decide +kernel
theorem dX10_ranges_155 : decode cX10_ranges 155 = .ok (.lastore, 1) := by decide +kernel
theorem dX10_ranges_156 : decode cX10_ranges 156 = .ok (.return_, 1) := by decide +kernel
set_option maxRecDepth 20000 in
theorem ggX10_flows_X10_densityAt : GoodIn wsX10_flows wsX10_densityAt := goodIn_r _ [7, 1, 8, 9, 10, 11, 12, 13, 14, 15, 6, 16, 39, 40, 41, 42, 43] (by decide +kernel) (by decide +kernel)
set_option maxRecDepth 20000 in
theorem gX10_flows_X10_densityAt : GoodIn wsX10_flows (wsV RX10 121 RX10 yX10_densityAt wsX10_densityAt) := goodIn_app (goodIn_of _ (by decide +kernel)) ggX10_flows_X10_densityAt
set_option maxRecDepth 20000 in
theorem ggX10_flows_X10_flowBy : GoodIn wsX10_flows wsX10_flowBy := goodIn_r _ [20, 1, 21, 2, 22, 23, 24, 3, 4, 5, 6, 7, 8, 9, 10, 11, 12, 13, 14, 15, 16, 25, 26, 27, 28, 29, 30, 31, 32, 33, 34, 35, 36, 37, 38, 39, 40, 41, 42, 43] (by decide +kernel) (by decide +kernel)
set_option maxRecDepth 20000 in
theorem gX10_flows_X10_flowBy : GoodIn wsX10_flows (wsV RX10 150 RX10 yX10_flowBy wsX10_flowBy) := goodIn_app (goodIn_of _ (by decide +kernel)) ggX10_flows_X10_flowBy
theorem dX10_flows_0 : decode cX10_flows 0 = .ok (.aload_n 0, 1) := by decide +kernel
theorem dX10_flows_1 : decode cX10_flows 1 = .ok (.aload_n 0, 1) := by decide +kernel
theorem dX10_flows_2 : decode cX10_flows 2 = .ok (.getfield 7, 3) := by decide +kernel
theorem dX10_flows_5 : decode cX10_flows 5 = .ok (.bipush 20, 2) := by decide +kernel
theorem dX10_flows_7 : decode cX10_flows 7 = .ok (.laload, 1) := by decide +kernel
theorem dX10_flows_8 : decode cX10_flows 8 = .ok (.aload_n 0, 1) := by decide +kernel
theorem dX10_flows_9 : decode cX10_flows 9 = .ok (.getfield 7, 3) := by decide +kernel
theorem dX10_flows_12 : decode cX10_flows 12 = .ok (.bipush 21, 2) := by decide +kernel
theorem dX10_flows_14 : decode cX10_flows 14 = .ok (.laload, 1) := by decide +kernel
theorem dX10_flows_15 : decode cX10_flows 15 = .ok (.invokevirtual 121, 3) := by decide +kernel
theorem dX10_flows_18 : decode cX10_flows 18 = .ok (.lstore_n 1, 1) := by decide +kernel
theorem dX10_flows_19 : decode cX10_flows 19 = .ok (.aload_n 0, 1) := by decide +kernel
theorem dX10_flows_20 : decode cX10_flows 20 = .ok (.aload_n 0, 1) := by decide +kernel
theorem dX10_flows_21 : decode cX10_flows 21 = .ok (.getfield 7, 3) := by decide +kernel
theorem dX10_flows_24 : decode cX10_flows 24 = .ok (.bipush 39, 2) := by decide +kernel
theorem dX10_flows_26 : decode cX10_flows 26 = .ok (.laload, 1) := by decide +kernel
theorem dX10_flows_27 : decode cX10_flows 27 = .ok (.aload_n 0, 1) := by decide +kernel
theorem dX10_flows_28 : decode cX10_flows 28 = .ok (.getfield 7, 3) := by decide +kernel
theorem dX10_flows_31 : decode cX10_flows 31 = .ok (.bipush 20, 2) := by decide +kernel
theorem dX10_flows_33 : decode cX10_flows 33 = .ok (.laload, 1) := by decide +kernel
theorem dX10_flows_34 : decode cX10_flows 34 = .ok (.aload_n 0, 1) := by decide +kernel
theorem dX10_flows_35 : decode cX10_flows 35 = .ok (.getfield 7, 3) := by decide +kernel
theorem dX10_flows_38 : decode cX10_flows 38 = .ok (.bipush 21, 2) := by decide +kernel
theorem dX10_flows_40 : decode cX10_flows 40 = .ok (.laload, 1) := by decide +kernel
theorem dX10_flows_41 : decode cX10_flows 41 = .ok (.invokevirtual 150, 3) := by decide +kernel
theorem dX10_flows_44 : decode cX10_flows 44 = .ok (.lstore_n 3, 1) := by decide +kernel
theorem dX10_flows_45 : decode cX10_flows 45 = .ok (.aload_n 0, 1) := by decide +kernel
theorem dX10_flows_46 : decode cX10_flows 46 = .ok (.getfield 7, 3) := by decide +kernel
theorem dX10_flows_49 : decode cX10_flows 49 = .ok (.bipush 41, 2) := by decide +kernel
theorem dX10_flows_51 : decode cX10_flows 51 = .ok (.aload_n 0, 1) := by decide +kernel
theorem dX10_flows_52 : decode cX10_flows 52 = .ok (.getfield 7, 3) := by decide +kernel
theorem dX10_flows_55 : decode cX10_flows 55 = .ok (.bipush 41, 2) := by decide +kernel
theorem dX10_flows_57 : decode cX10_flows 57 = .ok (.laload, 1) := by decide +kernel
theorem dX10_flows_58 : decode cX10_flows 58 = .ok (.lconst 1, 1) := by decide +kernel
theorem dX10_flows_59 : decode cX10_flows 59 = .ok (.lcmp, 1) := by decide +kernel
theorem dX10_flows_60 : decode cX10_flows 60 = .ok (.ifCond .ne 22, 3) := by decide +kernel
theorem dX10_flows_63 : decode cX10_flows 63 = .ok (.lload_n 3, 1) := by decide +kernel
theorem dX10_flows_64 : decode cX10_flows 64 = .ok (.aload_n 0, 1) := by decide +kernel
theorem dX10_flows_65 : decode cX10_flows 65 = .ok (.getfield 7, 3) := by decide +kernel
theorem dX10_flows_68 : decode cX10_flows 68 = .ok (.iconst 3, 1) := by decide +kernel
theorem dX10_flows_69 : decode cX10_flows 69 = .ok (.laload, 1) := by decide +kernel
theorem dX10_flows_70 : decode cX10_flows 70 = .ok (.lcmp, 1) := by decide +kernel
theorem dX10_flows_71 : decode cX10_flows 71 = .ok (.ifCond .ge 7, 3) := by decide +kernel
theorem dX10_flows_74 : decode cX10_flows 74 = .ok (.lconst 0, 1) := by decide +kernel
theorem dX10_flows_75 : decode cX10_flows 75 = .ok (.goto 23, 3) := by decide +kernel
theorem dX10_flows_78 : decode cX10_flows 78 = .ok (.lconst 1, 1) := by decide +kernel
theorem dX10_flows_79 : decode cX10_flows 79 = .ok (.goto 19, 3) := by decide +kernel
theorem dX10_flows_82 : decode cX10_flows 82 = .ok (.lload_n 3, 1) := by decide +kernel
theorem dX10_flows_83 : decode cX10_flows 83 = .ok (.aload_n 0, 1) := by decide +kernel
theorem dX10_flows_84 : decode cX10_flows 84 = .ok (.getfield 7, 3) := by decide +kernel
theorem dX10_flows_87 : decode cX10_flows 87 = .ok (.iconst 4, 1) := by decide +kernel
theorem dX10_flows_88 : decode cX10_flows 88 = .ok (.laload, 1) := by decide +kernel
theorem dX10_flows_89 : decode cX10_flows 89 = .ok (.lcmp, 1) := by decide +kernel
theorem dX10_flows_90 : decode cX10_flows 90 = .ok (.ifCond .lt 7, 3) := by decide +kernel
theorem dX10_flows_93 : decode cX10_flows 93 = .ok (.lconst 1, 1) := by decide +kernel
theorem dX10_flows_94 : decode cX10_flows 94 = .ok (.goto 4, 3) := by decide +kernel
theorem dX10_flows_97 : decode cX10_flows 97 = .ok (.lconst 0, 1) := by decide +kernel
theorem dX10_flows_98 : decode cX10_flows 98 = .ok (.lastore, 1) := by decide +kernel
theorem dX10_flows_99 : decode cX10_flows 99 = .ok (.aload_n 0, 1) := by decide +kernel
theorem dX10_flows_100 : decode cX10_flows 100 = .ok (.getfield 7, 3) := by decide +kernel
theorem dX10_flows_103 : decode cX10_flows 103 = .ok (.bipush 40, 2) := by decide +kernel
theorem dX10_flows_105 : decode cX10_flows 105 = .ok (.aload_n 0, 1) := by decide +kernel
theorem dX10_flows_106 : decode cX10_flows 106 = .ok (.getfield 7, 3) := by decide +kernel
theorem dX10_flows_109 : decode cX10_flows 109 = .ok (.bipush 41, 2) := by decide +kernel
theorem dX10_flows_111 : decode cX10_flows 111 = .ok (.laload, 1) := by decide +kernel
theorem dX10_flows_112 : decode cX10_flows 112 = .ok (.lconst 1, 1) := by decide +kernel
theorem dX10_flows_113 : decode cX10_flows 113 = .ok (.lcmp, 1) := by decide +kernel
theorem dX10_flows_114 : decode cX10_flows 114 = .ok (.ifCond .ne 7, 3) := by decide +kernel
theorem dX10_flows_117 : decode cX10_flows 117 = .ok (.lload_n 3, 1) := by decide +kernel
theorem dX10_flows_118 : decode cX10_flows 118 = .ok (.goto 4, 3) := by decide +kernel
theorem dX10_flows_121 : decode cX10_flows 121 = .ok (.lconst 0, 1) := by decide +kernel
theorem dX10_flows_122 : decode cX10_flows 122 = .ok (.lastore, 1) := by decide +kernel
theorem dX10_flows_123 : decode cX10_flows 123 = .ok (.aload_n 0, 1) := by decide +kernel
theorem dX10_flows_124 : decode cX10_flows 124 = .ok (.getfield 7, 3) := by decide +kernel
theorem dX10_flows_127 : decode cX10_flows 127 = .ok (.bipush 42, 2) := by decide +kernel
theorem dX10_flows_129 : decode cX10_flows 129 = .ok (.dup2, 1) := by decide +kernel
theorem dX10_flows_130 : decode cX10_flows 130 = .ok (.laload, 1) := by decide +kernel
theorem dX10_flows_131 : decode cX10_flows 131 = .ok (.aload_n 0, 1) := by decide +kernel
theorem dX10_flows_132 : decode cX10_flows 132 = .ok (.getfield 7, 3) := by decide +kernel
theorem dX10_flows_135 : decode cX10_flows 135 = .ok (.bipush 40, 2) := by decide +kernel
theorem dX10_flows_137 : decode cX10_flows 137 = .ok (.laload, 1) := by decide +kernel
theorem dX10_flows_138 : decode cX10_flows 138 = .ok (.ladd, 1) := by decide +kernel
theorem dX10_flows_139 : decode cX10_flows 139 = .ok (.lastore, 1) := by decide +kernel
theorem dX10_flows_140 : decode cX10_flows 140 = .ok (.aload_n 0, 1) := by decide +kernel
theorem dX10_flows_141 : decode cX10_flows 141 = .ok (.getfield 7, 3) := by decide +kernel
theorem dX10_flows_144 : decode cX10_flows 144 = .ok (.bipush 43, 2) := by decide +kernel
theorem dX10_flows_146 : decode cX10_flows 146 = .ok (.dup2, 1) := by decide +kernel
theorem dX10_flows_147 : decode cX10_flows 147 = .ok (.laload, 1) := by decide +kernel
theorem dX10_flows_148 : decode cX10_flows 148 = .ok (.lload_n 1, 1) := by decide +kernel
theorem dX10_flows_149 : decode cX10_flows 149 = .ok (.lconst 0, 1) := by decide +kernel
theorem dX10_flows_150 : decode cX10_flows 150 = .ok (.lcmp, 1) := by decide +kernel
theorem dX10_flows_151 : decode cX10_flows 151 = .ok (.ifCond .ne 7, 3) := by decide +kernel
theorem dX10_flows_154 : decode cX10_flows 154 = .ok (.lconst 0, 1) := by decide +kernel
theorem dX10_flows_155 : decode cX10_flows 155 = .ok (.goto 16, 3) := by decide +kernel
theorem dX10_flows_158 : decode cX10_flows 158 = .ok (.ldc2_w 22, 3) := by decide +kernel
theorem dX10_flows_161 : decode cX10_flows 161 = .ok (.aload_n 0, 1) := by decide +kernel
theorem dX10_flows_162 : decode cX10_flows 162 = .ok (.getfield 7, 3) := by decide +kernel
theorem dX10_flows_165 : decode cX10_flows 165 = .ok (.bipush 40, 2) := by decide +kernel
theorem dX10_flows_167 : decode cX10_flows 167 = .ok (.laload, 1) := by decide +kernel
theorem dX10_flows_168 : decode cX10_flows 168 = .ok (.lmul, 1) := by decide +kernel
theorem dX10_flows_169 : decode cX10_flows 169 = .ok (.lload_n 1, 1) := by decide +kernel
theorem dX10_flows_170 : decode cX10_flows 170 = .ok (.ldiv, 1) := by decide +kernel
theorem dX10_flows_171 : decode cX10_flows 171 = .ok (.ladd, 1) := by decide +kernel
theorem dX10_flows_172 : decode cX10_flows 172 = .ok (.lastore, 1) := by decide +kernel
theorem dX10_flows_173 : decode cX10_flows 173 = .ok (.return_, 1) := by decide +kernel
set_option maxRecDepth 20000 in
theorem ggX10_loads_X10_logs : GoodIn wsX10_loads wsX10_logs := goodIn_r _ [7, 1, 8, 9, 10, 6, 11, 12, 13, 14, 15, 16] (by decide +kernel) (by decide +kernel)
set_option maxRecDepth 20000 in
theorem gX10_loads_X10_logs : GoodIn wsX10_loads (wsV RX10 44 RX10 yX10_logs wsX10_logs) := goodIn_app (goodIn_of _ (by decide +kernel)) ggX10_loads_X10_logs
theorem dX10_loads_0 : decode cX10_loads 0 = .ok (.aload_n 0, 1) := by decide +kernel
theorem dX10_loads_1 : decode cX10_loads 1 = .ok (.getfield 7, 3) := by decide +kernel
theorem dX10_loads_4 : decode cX10_loads 4 = .ok (.bipush 45, 2) := by decide +kernel
theorem dX10_loads_6 : decode cX10_loads 6 = .ok (.laload, 1) := by decide +kernel
theorem dX10_loads_7 : decode cX10_loads 7 = .ok (.lconst 0, 1) := by decide +kernel
theorem dX10_loads_8 : decode cX10_loads 8 = .ok (.lcmp, 1) := by decide +kernel
theorem dX10_loads_9 : decode cX10_loads 9 = .ok (.ifCond .ne 4, 3) := by decide +kernel
theorem dX10_loads_12 : decode cX10_loads 12 = .ok (.return_, 1) := by decide +kernel
theorem dX10_loads_13 : decode cX10_loads 13 = .ok (.aload_n 0, 1) := by decide +kernel
theorem dX10_loads_14 : decode cX10_loads 14 = .ok (.getfield 7, 3) := by decide +kernel
theorem dX10_loads_17 : decode cX10_loads 17 = .ok (.bipush 44, 2) := by decide +kernel
theorem dX10_loads_19 : decode cX10_loads 19 = .ok (.dup2, 1) := by decide +kernel
theorem dX10_loads_20 : decode cX10_loads 20 = .ok (.laload, 1) := by decide +kernel
theorem dX10_loads_21 : decode cX10_loads 21 = .ok (.aload_n 0, 1) := by decide +kernel
theorem dX10_loads_22 : decode cX10_loads 22 = .ok (.getfield 7, 3) := by decide +kernel
theorem dX10_loads_25 : decode cX10_loads 25 = .ok (.bipush 40, 2) := by decide +kernel
theorem dX10_loads_27 : decode cX10_loads 27 = .ok (.laload, 1) := by decide +kernel
theorem dX10_loads_28 : decode cX10_loads 28 = .ok (.ladd, 1) := by decide +kernel
theorem dX10_loads_29 : decode cX10_loads 29 = .ok (.lastore, 1) := by decide +kernel
theorem dX10_loads_30 : decode cX10_loads 30 = .ok (.aload_n 0, 1) := by decide +kernel
theorem dX10_loads_31 : decode cX10_loads 31 = .ok (.getfield 7, 3) := by decide +kernel
theorem dX10_loads_34 : decode cX10_loads 34 = .ok (.bipush 44, 2) := by decide +kernel
theorem dX10_loads_36 : decode cX10_loads 36 = .ok (.laload, 1) := by decide +kernel
theorem dX10_loads_37 : decode cX10_loads 37 = .ok (.aload_n 0, 1) := by decide +kernel
theorem dX10_loads_38 : decode cX10_loads 38 = .ok (.getfield 7, 3) := by decide +kernel
theorem dX10_loads_41 : decode cX10_loads 41 = .ok (.bipush 46, 2) := by decide +kernel
theorem dX10_loads_43 : decode cX10_loads 43 = .ok (.laload, 1) := by decide +kernel
theorem dX10_loads_44 : decode cX10_loads 44 = .ok (.lcmp, 1) := by decide +kernel
theorem dX10_loads_45 : decode cX10_loads 45 = .ok (.ifCond .lt 42, 3) := by decide +kernel
theorem dX10_loads_48 : decode cX10_loads 48 = .ok (.aload_n 0, 1) := by decide +kernel
theorem dX10_loads_49 : decode cX10_loads 49 = .ok (.getfield 7, 3) := by decide +kernel
theorem dX10_loads_52 : decode cX10_loads 52 = .ok (.bipush 45, 2) := by decide +kernel
theorem dX10_loads_54 : decode cX10_loads 54 = .ok (.lconst 0, 1) := by decide +kernel
theorem dX10_loads_55 : decode cX10_loads 55 = .ok (.lastore, 1) := by decide +kernel
theorem dX10_loads_56 : decode cX10_loads 56 = .ok (.aload_n 0, 1) := by decide +kernel
theorem dX10_loads_57 : decode cX10_loads 57 = .ok (.getfield 7, 3) := by decide +kernel
theorem dX10_loads_60 : decode cX10_loads 60 = .ok (.bipush 49, 2) := by decide +kernel
theorem dX10_loads_62 : decode cX10_loads 62 = .ok (.lconst 0, 1) := by decide +kernel
theorem dX10_loads_63 : decode cX10_loads 63 = .ok (.lastore, 1) := by decide +kernel
theorem dX10_loads_64 : decode cX10_loads 64 = .ok (.aload_n 0, 1) := by decide +kernel
theorem dX10_loads_65 : decode cX10_loads 65 = .ok (.iconst 4, 1) := by decide +kernel
theorem dX10_loads_66 : decode cX10_loads 66 = .ok (.aload_n 0, 1) := by decide +kernel
theorem dX10_loads_67 : decode cX10_loads 67 = .ok (.getfield 7, 3) := by decide +kernel
theorem dX10_loads_70 : decode cX10_loads 70 = .ok (.bipush 44, 2) := by decide +kernel
theorem dX10_loads_72 : decode cX10_loads 72 = .ok (.laload, 1) := by decide +kernel
theorem dX10_loads_73 : decode cX10_loads 73 = .ok (.aload_n 0, 1) := by decide +kernel
theorem dX10_loads_74 : decode cX10_loads 74 = .ok (.getfield 7, 3) := by decide +kernel
theorem dX10_loads_77 : decode cX10_loads 77 = .ok (.bipush 46, 2) := by decide +kernel
theorem dX10_loads_79 : decode cX10_loads 79 = .ok (.laload, 1) := by decide +kernel
theorem dX10_loads_80 : decode cX10_loads 80 = .ok (.lsub, 1) := by decide +kernel
theorem dX10_loads_81 : decode cX10_loads 81 = .ok (.invokevirtual 44, 3) := by decide +kernel
theorem dX10_loads_84 : decode cX10_loads 84 = .ok (.goto 43, 3) := by decide +kernel
theorem dX10_loads_87 : decode cX10_loads 87 = .ok (.aload_n 0, 1) := by decide +kernel
theorem dX10_loads_88 : decode cX10_loads 88 = .ok (.getfield 7, 3) := by decide +kernel
theorem dX10_loads_91 : decode cX10_loads 91 = .ok (.bipush 49, 2) := by decide +kernel
theorem dX10_loads_93 : decode cX10_loads 93 = .ok (.aload_n 0, 1) := by decide +kernel
theorem dX10_loads_94 : decode cX10_loads 94 = .ok (.getfield 7, 3) := by decide +kernel
theorem dX10_loads_97 : decode cX10_loads 97 = .ok (.bipush 46, 2) := by decide +kernel
theorem dX10_loads_99 : decode cX10_loads 99 = .ok (.laload, 1) := by decide +kernel
theorem dX10_loads_100 : decode cX10_loads 100 = .ok (.aload_n 0, 1) := by decide +kernel
theorem dX10_loads_101 : decode cX10_loads 101 = .ok (.getfield 7, 3) := by decide +kernel
theorem dX10_loads_104 : decode cX10_loads 104 = .ok (.bipush 44, 2) := by decide +kernel
theorem dX10_loads_106 : decode cX10_loads 106 = .ok (.laload, 1) := by decide +kernel
theorem dX10_loads_107 : decode cX10_loads 107 = .ok (.lsub, 1) := by decide +kernel
theorem dX10_loads_108 : decode cX10_loads 108 = .ok (.aload_n 0, 1) := by decide +kernel
theorem dX10_loads_109 : decode cX10_loads 109 = .ok (.getfield 7, 3) := by decide +kernel
theorem dX10_loads_112 : decode cX10_loads 112 = .ok (.bipush 47, 2) := by decide +kernel
theorem dX10_loads_114 : decode cX10_loads 114 = .ok (.laload, 1) := by decide +kernel
theorem dX10_loads_115 : decode cX10_loads 115 = .ok (.lcmp, 1) := by decide +kernel
theorem dX10_loads_116 : decode cX10_loads 116 = .ok (.ifCond .gt 7, 3) := by decide +kernel
theorem dX10_loads_119 : decode cX10_loads 119 = .ok (.lconst 1, 1) := by decide +kernel
theorem dX10_loads_120 : decode cX10_loads 120 = .ok (.goto 6, 3) := by decide +kernel
theorem dX10_loads_123 : decode cX10_loads 123 = .ok (.ldc2_w 114, 3) := by decide +kernel
theorem dX10_loads_126 : decode cX10_loads 126 = .ok (.lastore, 1) := by decide +kernel
theorem dX10_loads_127 : decode cX10_loads 127 = .ok (.return_, 1) := by decide +kernel
set_option maxRecDepth 20000 in
theorem ggX10_counts_X10_isFaulty : GoodIn wsX10_counts wsX10_isFaulty := goodIn_r _ [7, 1, 8, 9, 10, 11, 12, 13] (by decide +kernel) (by decide +kernel)
set_option maxRecDepth 20000 in
theorem gX10_counts_X10_isFaulty : GoodIn wsX10_counts (wsV RX10 135 RX10 yX10_isFaulty wsX10_isFaulty) := goodIn_app (goodIn_of _ (by decide +kernel)) ggX10_counts_X10_isFaulty
theorem dX10_counts_0 : decode cX10_counts 0 = .ok (.aload_n 0, 1) := by decide +kernel
theorem dX10_counts_1 : decode cX10_counts 1 = .ok (.getfield 7, 3) := by decide +kernel
theorem dX10_counts_4 : decode cX10_counts 4 = .ok (.bipush 50, 2) := by decide +kernel
theorem dX10_counts_6 : decode cX10_counts 6 = .ok (.dup2, 1) := by decide +kernel
theorem dX10_counts_7 : decode cX10_counts 7 = .ok (.laload, 1) := by decide +kernel
theorem dX10_counts_8 : decode cX10_counts 8 = .ok (.aload_n 0, 1) := by decide +kernel
theorem dX10_counts_9 : decode cX10_counts 9 = .ok (.getfield 7, 3) := by decide +kernel
theorem dX10_counts_12 : decode cX10_counts 12 = .ok (.bipush 40, 2) := by decide +kernel
theorem dX10_counts_14 : decode cX10_counts 14 = .ok (.laload, 1) := by decide +kernel
theorem dX10_counts_15 : decode cX10_counts 15 = .ok (.ladd, 1) := by decide +kernel
theorem dX10_counts_16 : decode cX10_counts 16 = .ok (.lastore, 1) := by decide +kernel
theorem dX10_counts_17 : decode cX10_counts 17 = .ok (.aload_n 0, 1) := by decide +kernel
theorem dX10_counts_18 : decode cX10_counts 18 = .ok (.getfield 7, 3) := by decide +kernel
theorem dX10_counts_21 : decode cX10_counts 21 = .ok (.bipush 59, 2) := by decide +kernel
theorem dX10_counts_23 : decode cX10_counts 23 = .ok (.dup2, 1) := by decide +kernel
theorem dX10_counts_24 : decode cX10_counts 24 = .ok (.laload, 1) := by decide +kernel
theorem dX10_counts_25 : decode cX10_counts 25 = .ok (.lconst 1, 1) := by decide +kernel
theorem dX10_counts_26 : decode cX10_counts 26 = .ok (.ladd, 1) := by decide +kernel
theorem dX10_counts_27 : decode cX10_counts 27 = .ok (.lastore, 1) := by decide +kernel
theorem dX10_counts_28 : decode cX10_counts 28 = .ok (.aload_n 0, 1) := by decide +kernel
theorem dX10_counts_29 : decode cX10_counts 29 = .ok (.getfield 7, 3) := by decide +kernel
theorem dX10_counts_32 : decode cX10_counts 32 = .ok (.bipush 52, 2) := by decide +kernel
theorem dX10_counts_34 : decode cX10_counts 34 = .ok (.dup2, 1) := by decide +kernel
theorem dX10_counts_35 : decode cX10_counts 35 = .ok (.laload, 1) := by decide +kernel
theorem dX10_counts_36 : decode cX10_counts 36 = .ok (.aload_n 0, 1) := by decide +kernel
theorem dX10_counts_37 : decode cX10_counts 37 = .ok (.getfield 7, 3) := by decide +kernel
theorem dX10_counts_40 : decode cX10_counts 40 = .ok (.bipush 41, 2) := by decide +kernel
theorem dX10_counts_42 : decode cX10_counts 42 = .ok (.laload, 1) := by decide +kernel
theorem dX10_counts_43 : decode cX10_counts 43 = .ok (.ladd, 1) := by decide +kernel
theorem dX10_counts_44 : decode cX10_counts 44 = .ok (.lastore, 1) := by decide +kernel
theorem dX10_counts_45 : decode cX10_counts 45 = .ok (.iconst 0, 1) := by decide +kernel
theorem dX10_counts_46 : decode cX10_counts 46 = .ok (.istore_n 1, 1) := by decide +kernel
theorem dX10_counts_47 : decode cX10_counts 47 = .ok (.iload_n 1, 1) := by decide +kernel
theorem dX10_counts_48 : decode cX10_counts 48 = .ok (.iconst 4, 1) := by decide +kernel
theorem dX10_counts_49 : decode cX10_counts 49 = .ok (.if_icmp .ge 34, 3) := by decide +kernel
theorem dX10_counts_52 : decode cX10_counts 52 = .ok (.aload_n 0, 1) := by decide +kernel
theorem dX10_counts_53 : decode cX10_counts 53 = .ok (.getfield 7, 3) := by decide +kernel
theorem dX10_counts_56 : decode cX10_counts 56 = .ok (.bipush 51, 2) := by decide +kernel
theorem dX10_counts_58 : decode cX10_counts 58 = .ok (.dup2, 1) := by decide +kernel
theorem dX10_counts_59 : decode cX10_counts 59 = .ok (.laload, 1) := by decide +kernel
theorem dX10_counts_60 : decode cX10_counts 60 = .ok (.aload_n 0, 1) := by decide +kernel
theorem dX10_counts_61 : decode cX10_counts 61 = .ok (.iload_n 1, 1) := by decide +kernel
theorem dX10_counts_62 : decode cX10_counts 62 = .ok (.invokevirtual 135, 3) := by decide +kernel
theorem dX10_counts_65 : decode cX10_counts 65 = .ok (.ifCond .eq 9, 3) := by decide +kernel
theorem dX10_counts_68 : decode cX10_counts 68 = .ok (.lconst 1, 1) := by decide +kernel
theorem dX10_counts_69 : decode cX10_counts 69 = .ok (.iload_n 1, 1) := by decide +kernel
theorem dX10_counts_70 : decode cX10_counts 70 = .ok (.lshl, 1) := by decide +kernel
theorem dX10_counts_71 : decode cX10_counts 71 = .ok (.goto 4, 3) := by decide +kernel
theorem dX10_counts_74 : decode cX10_counts 74 = .ok (.lconst 0, 1) := by decide +kernel
theorem dX10_counts_75 : decode cX10_counts 75 = .ok (.lor, 1) := by decide +kernel
theorem dX10_counts_76 : decode cX10_counts 76 = .ok (.lastore, 1) := by decide +kernel
theorem dX10_counts_77 : decode cX10_counts 77 = .ok (.iinc 1 1, 3) := by decide +kernel
theorem dX10_counts_80 : decode cX10_counts 80 = .ok (.goto (-33), 3) := by decide +kernel
theorem dX10_counts_83 : decode cX10_counts 83 = .ok (.aload_n 0, 1) := by decide +kernel
theorem dX10_counts_84 : decode cX10_counts 84 = .ok (.getfield 7, 3) := by decide +kernel
theorem dX10_counts_87 : decode cX10_counts 87 = .ok (.bipush 51, 2) := by decide +kernel
theorem dX10_counts_89 : decode cX10_counts 89 = .ok (.dup2, 1) := by decide +kernel
theorem dX10_counts_90 : decode cX10_counts 90 = .ok (.laload, 1) := by decide +kernel
theorem dX10_counts_91 : decode cX10_counts 91 = .ok (.aload_n 0, 1) := by decide +kernel
theorem dX10_counts_92 : decode cX10_counts 92 = .ok (.getfield 7, 3) := by decide +kernel
theorem dX10_counts_95 : decode cX10_counts 95 = .ok (.bipush 38, 2) := by decide +kernel
theorem dX10_counts_97 : decode cX10_counts 97 = .ok (.laload, 1) := by decide +kernel
theorem dX10_counts_98 : decode cX10_counts 98 = .ok (.lconst 0, 1) := by decide +kernel
theorem dX10_counts_99 : decode cX10_counts 99 = .ok (.lcmp, 1) := by decide +kernel
theorem dX10_counts_100 : decode cX10_counts 100 = .ok (.ifCond .le 9, 3) := by decide +kernel
theorem dX10_counts_103 : decode cX10_counts 103 = .ok (.ldc2_w 154, 3) := by decide +kernel
theorem dX10_counts_106 : decode cX10_counts 106 = .ok (.goto 4, 3) := by decide +kernel
theorem dX10_counts_109 : decode cX10_counts 109 = .ok (.lconst 0, 1) := by decide +kernel
theorem dX10_counts_110 : decode cX10_counts 110 = .ok (.lor, 1) := by decide +kernel
theorem dX10_counts_111 : decode cX10_counts 111 = .ok (.lastore, 1) := by decide +kernel
theorem dX10_counts_112 : decode cX10_counts 112 = .ok (.iconst 0, 1) := by decide +kernel
theorem dX10_counts_113 : decode cX10_counts 113 = .ok (.istore_n 1, 1) := by decide +kernel
theorem dX10_counts_114 : decode cX10_counts 114 = .ok (.iload_n 1, 1) := by decide +kernel
theorem dX10_counts_115 : decode cX10_counts 115 = .ok (.iconst 3, 1) := by decide +kernel
theorem dX10_counts_116 : decode cX10_counts 116 = .ok (.if_icmp .ge 77, 3) := by decide +kernel
theorem dX10_counts_119 : decode cX10_counts 119 = .ok (.iload_n 1, 1) := by decide +kernel
theorem dX10_counts_120 : decode cX10_counts 120 = .ok (.ifCond .ne 13, 3) := by decide +kernel
theorem dX10_counts_123 : decode cX10_counts 123 = .ok (.aload_n 0, 1) := by decide +kernel
theorem dX10_counts_124 : decode cX10_counts 124 = .ok (.getfield 7, 3) := by decide +kernel
theorem dX10_counts_127 : decode cX10_counts 127 = .ok (.bipush 39, 2) := by decide +kernel
theorem dX10_counts_129 : decode cX10_counts 129 = .ok (.laload, 1) := by decide +kernel
theorem dX10_counts_130 : decode cX10_counts 130 = .ok (.goto 14, 3) := by decide +kernel
theorem dX10_counts_133 : decode cX10_counts 133 = .ok (.aload_n 0, 1) := by decide +kernel
theorem dX10_counts_134 : decode cX10_counts 134 = .ok (.getfield 7, 3) := by decide +kernel
theorem dX10_counts_137 : decode cX10_counts 137 = .ok (.bipush 18, 2) := by decide +kernel
theorem dX10_counts_139 : decode cX10_counts 139 = .ok (.iload_n 1, 1) := by decide +kernel
theorem dX10_counts_140 : decode cX10_counts 140 = .ok (.iadd, 1) := by decide +kernel
theorem dX10_counts_141 : decode cX10_counts 141 = .ok (.iconst 1, 1) := by decide +kernel
theorem dX10_counts_142 : decode cX10_counts 142 = .ok (.iadd, 1) := by decide +kernel
theorem dX10_counts_143 : decode cX10_counts 143 = .ok (.laload, 1) := by decide +kernel
theorem dX10_counts_144 : decode cX10_counts 144 = .ok (.lstore_n 2, 1) := by decide +kernel
theorem dX10_counts_145 : decode cX10_counts 145 = .ok (.aload_n 0, 1) := by decide +kernel
theorem dX10_counts_146 : decode cX10_counts 146 = .ok (.getfield 7, 3) := by decide +kernel
theorem dX10_counts_149 : decode cX10_counts 149 = .ok (.bipush 56, 2) := by decide +kernel
theorem dX10_counts_151 : decode cX10_counts 151 = .ok (.iload_n 1, 1) := by decide +kernel
theorem dX10_counts_152 : decode cX10_counts 152 = .ok (.iadd, 1) := by decide +kernel
theorem dX10_counts_153 : decode cX10_counts 153 = .ok (.dup2, 1) := by decide +kernel
theorem dX10_counts_154 : decode cX10_counts 154 = .ok (.laload, 1) := by decide +kernel
theorem dX10_counts_155 : decode cX10_counts 155 = .ok (.lload_n 2, 1) := by decide +kernel
theorem dX10_counts_156 : decode cX10_counts 156 = .ok (.ladd, 1) := by decide +kernel
theorem dX10_counts_157 : decode cX10_counts 157 = .ok (.lastore, 1) := by decide +kernel
theorem dX10_counts_158 : decode cX10_counts 158 = .ok (.aload_n 0, 1) := by decide +kernel
theorem dX10_counts_159 : decode cX10_counts 159 = .ok (.getfield 7, 3) := by decide +kernel
theorem dX10_counts_162 : decode cX10_counts 162 = .ok (.bipush 53, 2) := by decide +kernel
theorem dX10_counts_164 : decode cX10_counts 164 = .ok (.iload_n 1, 1) := by decide +kernel
theorem dX10_counts_165 : decode cX10_counts 165 = .ok (.iadd, 1) := by decide +kernel
theorem dX10_counts_166 : decode cX10_counts 166 = .ok (.dup2, 1) := by decide +kernel
theorem dX10_counts_167 : decode cX10_counts 167 = .ok (.laload, 1) := by decide +kernel
theorem dX10_counts_168 : decode cX10_counts 168 = .ok (.aload_n 0, 1) := by decide +kernel
theorem dX10_counts_169 : decode cX10_counts 169 = .ok (.getfield 7, 3) := by decide +kernel
theorem dX10_counts_172 : decode cX10_counts 172 = .ok (.bipush 41, 2) := by decide +kernel
theorem dX10_counts_174 : decode cX10_counts 174 = .ok (.laload, 1) := by decide +kernel
theorem dX10_counts_175 : decode cX10_counts 175 = .ok (.lconst 1, 1) := by decide +kernel
theorem dX10_counts_176 : decode cX10_counts 176 = .ok (.lcmp, 1) := by decide +kernel
theorem dX10_counts_177 : decode cX10_counts 177 = .ok (.ifCond .ne 7, 3) := by decide +kernel
theorem dX10_counts_180 : decode cX10_counts 180 = .ok (.lload_n 2, 1) := by decide +kernel
theorem dX10_counts_181 : decode cX10_counts 181 = .ok (.goto 4, 3) := by decide +kernel
theorem dX10_counts_184 : decode cX10_counts 184 = .ok (.lconst 0, 1) := by decide +kernel
theorem dX10_counts_185 : decode cX10_counts 185 = .ok (.ladd, 1) := by decide +kernel
theorem dX10_counts_186 : decode cX10_counts 186 = .ok (.lastore, 1) := by decide +kernel
theorem dX10_counts_187 : decode cX10_counts 187 = .ok (.iinc 1 1, 3) := by decide +kernel
theorem dX10_counts_190 : decode cX10_counts 190 = .ok (.goto (-76), 3) := by decide +kernel
theorem dX10_counts_193 : decode cX10_counts 193 = .ok (.return_, 1) := by decide +kernel
set_option maxRecDepth 20000 in
theorem ggX10_endsHour_X10_comes : GoodIn wsX10_endsHour wsX10_comes := goodIn_r _ [8, 1, 16, 17, 18, 19, 20] (by decide +kernel) (by decide +kernel)
set_option maxRecDepth 20000 in
theorem gX10_endsHour_X10_comes : GoodIn wsX10_endsHour (wsV RX10 37 RX10 yX10_comes wsX10_comes) := goodIn_app (goodIn_of _ (by decide +kernel)) ggX10_endsHour_X10_comes
set_option maxRecDepth 20000 in
theorem ggX10_endsHour_X10_floor : GoodIn wsX10_endsHour wsX10_floor := goodIn_r _ [11] (by decide +kernel) (by decide +kernel)
set_option maxRecDepth 20000 in
theorem gX10_endsHour_X10_floor : GoodIn wsX10_endsHour (va_wsS RX10 94 yX10_floor wsX10_floor) := goodIn_app (goodIn_of _ (by decide +kernel)) ggX10_endsHour_X10_floor
set_option maxRecDepth 20000 in
theorem ggX10_endsHour_X10_endsDay : GoodIn wsX10_endsHour wsX10_endsDay := goodIn_r _ [15, 1, 4, 5, 6, 7, 8, 16, 17, 18, 19, 20] (by decide +kernel) (by decide +kernel)
set_option maxRecDepth 20000 in
theorem gX10_endsHour_X10_endsDay : GoodIn wsX10_endsHour (wsV RX10 160 RX10 yX10_endsDay wsX10_endsDay) := goodIn_app (goodIn_of _ (by decide +kernel)) ggX10_endsHour_X10_endsDay
theorem dX10_endsHour_0 : decode cX10_endsHour 0 = .ok (.aload_n 0, 1) := by decide +kernel
theorem dX10_endsHour_1 : decode cX10_endsHour 1 = .ok (.bipush 63, 2) := by decide +kernel
theorem dX10_endsHour_3 : decode cX10_endsHour 3 = .ok (.bipush 7, 2) := by decide +kernel
theorem dX10_endsHour_5 : decode cX10_endsHour 5 = .ok (.bipush 24, 2) := by decide +kernel
theorem dX10_endsHour_7 : decode cX10_endsHour 7 = .ok (.invokevirtual 37, 3) := by decide +kernel
theorem dX10_endsHour_10 : decode cX10_endsHour 10 = .ok (.istore_n 1, 1) := by decide +kernel
theorem dX10_endsHour_11 : decode cX10_endsHour 11 = .ok (.aload_n 0, 1) := by decide +kernel
theorem dX10_endsHour_12 : decode cX10_endsHour 12 = .ok (.getfield 7, 3) := by decide +kernel
theorem dX10_endsHour_15 : decode cX10_endsHour 15 = .ok (.iload_n 1, 1) := by decide +kernel
theorem dX10_endsHour_16 : decode cX10_endsHour 16 = .ok (.aload_n 0, 1) := by decide +kernel
theorem dX10_endsHour_17 : decode cX10_endsHour 17 = .ok (.getfield 7, 3) := by decide +kernel
theorem dX10_endsHour_20 : decode cX10_endsHour 20 = .ok (.bipush 50, 2) := by decide +kernel
theorem dX10_endsHour_22 : decode cX10_endsHour 22 = .ok (.laload, 1) := by decide +kernel
theorem dX10_endsHour_23 : decode cX10_endsHour 23 = .ok (.lastore, 1) := by decide +kernel
theorem dX10_endsHour_24 : decode cX10_endsHour 24 = .ok (.aload_n 0, 1) := by decide +kernel
theorem dX10_endsHour_25 : decode cX10_endsHour 25 = .ok (.getfield 7, 3) := by decide +kernel
theorem dX10_endsHour_28 : decode cX10_endsHour 28 = .ok (.iload_n 1, 1) := by decide +kernel
theorem dX10_endsHour_29 : decode cX10_endsHour 29 = .ok (.iconst 1, 1) := by decide +kernel
theorem dX10_endsHour_30 : decode cX10_endsHour 30 = .ok (.iadd, 1) := by decide +kernel
theorem dX10_endsHour_31 : decode cX10_endsHour 31 = .ok (.aload_n 0, 1) := by decide +kernel
theorem dX10_endsHour_32 : decode cX10_endsHour 32 = .ok (.getfield 7, 3) := by decide +kernel
theorem dX10_endsHour_35 : decode cX10_endsHour 35 = .ok (.bipush 52, 2) := by decide +kernel
theorem dX10_endsHour_37 : decode cX10_endsHour 37 = .ok (.laload, 1) := by decide +kernel
theorem dX10_endsHour_38 : decode cX10_endsHour 38 = .ok (.lastore, 1) := by decide +kernel
theorem dX10_endsHour_39 : decode cX10_endsHour 39 = .ok (.iconst 0, 1) := by decide +kernel
theorem dX10_endsHour_40 : decode cX10_endsHour 40 = .ok (.istore_n 2, 1) := by decide +kernel
theorem dX10_endsHour_41 : decode cX10_endsHour 41 = .ok (.iload_n 2, 1) := by decide +kernel
theorem dX10_endsHour_42 : decode cX10_endsHour 42 = .ok (.iconst 3, 1) := by decide +kernel
theorem dX10_endsHour_43 : decode cX10_endsHour 43 = .ok (.if_icmp .ge 72, 3) := by decide +kernel
theorem dX10_endsHour_46 : decode cX10_endsHour 46 = .ok (.aload_n 0, 1) := by decide +kernel
theorem dX10_endsHour_47 : decode cX10_endsHour 47 = .ok (.getfield 7, 3) := by decide +kernel
theorem dX10_endsHour_50 : decode cX10_endsHour 50 = .ok (.iload_n 1, 1) := by decide +kernel
theorem dX10_endsHour_51 : decode cX10_endsHour 51 = .ok (.iconst 2, 1) := by decide +kernel
theorem dX10_endsHour_52 : decode cX10_endsHour 52 = .ok (.iadd, 1) := by decide +kernel
theorem dX10_endsHour_53 : decode cX10_endsHour 53 = .ok (.iload_n 2, 1) := by decide +kernel
theorem dX10_endsHour_54 : decode cX10_endsHour 54 = .ok (.iadd, 1) := by decide +kernel
theorem dX10_endsHour_55 : decode cX10_endsHour 55 = .ok (.aload_n 0, 1) := by decide +kernel
theorem dX10_endsHour_56 : decode cX10_endsHour 56 = .ok (.getfield 7, 3) := by decide +kernel
theorem dX10_endsHour_59 : decode cX10_endsHour 59 = .ok (.bipush 52, 2) := by decide +kernel
theorem dX10_endsHour_61 : decode cX10_endsHour 61 = .ok (.laload, 1) := by decide +kernel
theorem dX10_endsHour_62 : decode cX10_endsHour 62 = .ok (.lconst 0, 1) := by decide +kernel
theorem dX10_endsHour_63 : decode cX10_endsHour 63 = .ok (.lcmp, 1) := by decide +kernel
theorem dX10_endsHour_64 : decode cX10_endsHour 64 = .ok (.ifCond .le 25, 3) := by decide +kernel
theorem dX10_endsHour_67 : decode cX10_endsHour 67 = .ok (.aload_n 0, 1) := by decide +kernel
theorem dX10_endsHour_68 : decode cX10_endsHour 68 = .ok (.getfield 7, 3) := by decide +kernel
theorem dX10_endsHour_71 : decode cX10_endsHour 71 = .ok (.bipush 53, 2) := by decide +kernel
theorem dX10_endsHour_73 : decode cX10_endsHour 73 = .ok (.iload_n 2, 1) := by decide +kernel
theorem dX10_endsHour_74 : decode cX10_endsHour 74 = .ok (.iadd, 1) := by decide +kernel
theorem dX10_endsHour_75 : decode cX10_endsHour 75 = .ok (.laload, 1) := by decide +kernel
theorem dX10_endsHour_76 : decode cX10_endsHour 76 = .ok (.aload_n 0, 1) := by decide +kernel
theorem dX10_endsHour_77 : decode cX10_endsHour 77 = .ok (.getfield 7, 3) := by decide +kernel
theorem dX10_endsHour_80 : decode cX10_endsHour 80 = .ok (.bipush 52, 2) := by decide +kernel
theorem dX10_endsHour_82 : decode cX10_endsHour 82 = .ok (.laload, 1) := by decide +kernel
theorem dX10_endsHour_83 : decode cX10_endsHour 83 = .ok (.invokestatic 94, 3) := by decide +kernel
theorem dX10_endsHour_86 : decode cX10_endsHour 86 = .ok (.goto 22, 3) := by decide +kernel
theorem dX10_endsHour_89 : decode cX10_endsHour 89 = .ok (.aload_n 0, 1) := by decide +kernel
theorem dX10_endsHour_90 : decode cX10_endsHour 90 = .ok (.getfield 7, 3) := by decide +kernel
theorem dX10_endsHour_93 : decode cX10_endsHour 93 = .ok (.bipush 56, 2) := by decide +kernel
theorem dX10_endsHour_95 : decode cX10_endsHour 95 = .ok (.iload_n 2, 1) := by decide +kernel
theorem dX10_endsHour_96 : decode cX10_endsHour 96 = .ok (.iadd, 1) := by decide +kernel
theorem dX10_endsHour_97 : decode cX10_endsHour 97 = .ok (.laload, 1) := by decide +kernel
theorem dX10_endsHour_98 : decode cX10_endsHour 98 = .ok (.aload_n 0, 1) := by decide +kernel
theorem dX10_endsHour_99 : decode cX10_endsHour 99 = .ok (.getfield 7, 3) := by decide +kernel
theorem dX10_endsHour_102 : decode cX10_endsHour 102 = .ok (.bipush 59, 2) := by decide +kernel
theorem dX10_endsHour_104 : decode cX10_endsHour 104 = .ok (.laload, 1) := by decide +kernel
theorem dX10_endsHour_105 : decode cX10_endsHour 105 = .ok (.invokestatic 94, 3) := by decide +kernel
theorem dX10_endsHour_108 : decode cX10_endsHour 108 = .ok (.lastore, 1) := by decide +kernel
theorem dX10_endsHour_109 : decode cX10_endsHour 109 = .ok (.iinc 2 1, 3) := by decide +kernel
theorem dX10_endsHour_112 : decode cX10_endsHour 112 = .ok (.goto (-71), 3) := by decide +kernel
theorem dX10_endsHour_115 : decode cX10_endsHour 115 = .ok (.aload_n 0, 1) := by decide +kernel
theorem dX10_endsHour_116 : decode cX10_endsHour 116 = .ok (.getfield 7, 3) := by decide +kernel
theorem dX10_endsHour_119 : decode cX10_endsHour 119 = .ok (.iload_n 1, 1) := by decide +kernel
theorem dX10_endsHour_120 : decode cX10_endsHour 120 = .ok (.iconst 5, 1) := by decide +kernel
theorem dX10_endsHour_121 : decode cX10_endsHour 121 = .ok (.iadd, 1) := by decide +kernel
theorem dX10_endsHour_122 : decode cX10_endsHour 122 = .ok (.aload_n 0, 1) := by decide +kernel
theorem dX10_endsHour_123 : decode cX10_endsHour 123 = .ok (.getfield 7, 3) := by decide +kernel
theorem dX10_endsHour_126 : decode cX10_endsHour 126 = .ok (.bipush 51, 2) := by decide +kernel
theorem dX10_endsHour_128 : decode cX10_endsHour 128 = .ok (.laload, 1) := by decide +kernel
theorem dX10_endsHour_129 : decode cX10_endsHour 129 = .ok (.lastore, 1) := by decide +kernel
theorem dX10_endsHour_130 : decode cX10_endsHour 130 = .ok (.aload_n 0, 1) := by decide +kernel
theorem dX10_endsHour_131 : decode cX10_endsHour 131 = .ok (.getfield 7, 3) := by decide +kernel
theorem dX10_endsHour_134 : decode cX10_endsHour 134 = .ok (.iload_n 1, 1) := by decide +kernel
theorem dX10_endsHour_135 : decode cX10_endsHour 135 = .ok (.bipush 6, 2) := by decide +kernel
theorem dX10_endsHour_137 : decode cX10_endsHour 137 = .ok (.iadd, 1) := by decide +kernel
theorem dX10_endsHour_138 : decode cX10_endsHour 138 = .ok (.aload_n 0, 1) := by decide +kernel
theorem dX10_endsHour_139 : decode cX10_endsHour 139 = .ok (.getfield 7, 3) := by decide +kernel
theorem dX10_endsHour_142 : decode cX10_endsHour 142 = .ok (.iconst 0, 1) := by decide +kernel
theorem dX10_endsHour_143 : decode cX10_endsHour 143 = .ok (.laload, 1) := by decide +kernel
theorem dX10_endsHour_144 : decode cX10_endsHour 144 = .ok (.lastore, 1) := by decide +kernel
theorem dX10_endsHour_145 : decode cX10_endsHour 145 = .ok (.aload_n 0, 1) := by decide +kernel
theorem dX10_endsHour_146 : decode cX10_endsHour 146 = .ok (.getfield 7, 3) := by decide +kernel
theorem dX10_endsHour_149 : decode cX10_endsHour 149 = .ok (.bipush 60, 2) := by decide +kernel
theorem dX10_endsHour_151 : decode cX10_endsHour 151 = .ok (.dup2, 1) := by decide +kernel
theorem dX10_endsHour_152 : decode cX10_endsHour 152 = .ok (.laload, 1) := by decide +kernel
theorem dX10_endsHour_153 : decode cX10_endsHour 153 = .ok (.aload_n 0, 1) := by decide +kernel
theorem dX10_endsHour_154 : decode cX10_endsHour 154 = .ok (.getfield 7, 3) := by decide +kernel
theorem dX10_endsHour_157 : decode cX10_endsHour 157 = .ok (.bipush 50, 2) := by decide +kernel
theorem dX10_endsHour_159 : decode cX10_endsHour 159 = .ok (.laload, 1) := by decide +kernel
theorem dX10_endsHour_160 : decode cX10_endsHour 160 = .ok (.ladd, 1) := by decide +kernel
theorem dX10_endsHour_161 : decode cX10_endsHour 161 = .ok (.lastore, 1) := by decide +kernel
theorem dX10_endsHour_162 : decode cX10_endsHour 162 = .ok (.aload_n 0, 1) := by decide +kernel
theorem dX10_endsHour_163 : decode cX10_endsHour 163 = .ok (.getfield 7, 3) := by decide +kernel
theorem dX10_endsHour_166 : decode cX10_endsHour 166 = .ok (.bipush 61, 2) := by decide +kernel
theorem dX10_endsHour_168 : decode cX10_endsHour 168 = .ok (.dup2, 1) := by decide +kernel
theorem dX10_endsHour_169 : decode cX10_endsHour 169 = .ok (.laload, 1) := by decide +kernel
theorem dX10_endsHour_170 : decode cX10_endsHour 170 = .ok (.aload_n 0, 1) := by decide +kernel
theorem dX10_endsHour_171 : decode cX10_endsHour 171 = .ok (.getfield 7, 3) := by decide +kernel
theorem dX10_endsHour_174 : decode cX10_endsHour 174 = .ok (.bipush 52, 2) := by decide +kernel
theorem dX10_endsHour_176 : decode cX10_endsHour 176 = .ok (.laload, 1) := by decide +kernel
theorem dX10_endsHour_177 : decode cX10_endsHour 177 = .ok (.ladd, 1) := by decide +kernel
theorem dX10_endsHour_178 : decode cX10_endsHour 178 = .ok (.lastore, 1) := by decide +kernel
theorem dX10_endsHour_179 : decode cX10_endsHour 179 = .ok (.aload_n 0, 1) := by decide +kernel
theorem dX10_endsHour_180 : decode cX10_endsHour 180 = .ok (.getfield 7, 3) := by decide +kernel
theorem dX10_endsHour_183 : decode cX10_endsHour 183 = .ok (.bipush 62, 2) := by decide +kernel
theorem dX10_endsHour_185 : decode cX10_endsHour 185 = .ok (.dup2, 1) := by decide +kernel
theorem dX10_endsHour_186 : decode cX10_endsHour 186 = .ok (.laload, 1) := by decide +kernel
theorem dX10_endsHour_187 : decode cX10_endsHour 187 = .ok (.lconst 1, 1) := by decide +kernel
theorem dX10_endsHour_188 : decode cX10_endsHour 188 = .ok (.ladd, 1) := by decide +kernel
theorem dX10_endsHour_189 : decode cX10_endsHour 189 = .ok (.lastore, 1) := by decide +kernel
theorem dX10_endsHour_190 : decode cX10_endsHour 190 = .ok (.bipush 50, 2) := by decide +kernel
theorem dX10_endsHour_192 : decode cX10_endsHour 192 = .ok (.istore_n 2, 1) := by decide +kernel
theorem dX10_endsHour_193 : decode cX10_endsHour 193 = .ok (.iload_n 2, 1) := by decide +kernel
theorem dX10_endsHour_194 : decode cX10_endsHour 194 = .ok (.bipush 59, 2) := by decide +kernel
theorem dX10_endsHour_196 : decode cX10_endsHour 196 = .ok (.if_icmp .gt 16, 3) := by decide +kernel
theorem dX10_endsHour_199 : decode cX10_endsHour 199 = .ok (.aload_n 0, 1) := by decide +kernel
theorem dX10_endsHour_200 : decode cX10_endsHour 200 = .ok (.getfield 7, 3) := by decide +kernel
theorem dX10_endsHour_203 : decode cX10_endsHour 203 = .ok (.iload_n 2, 1) := by decide +kernel
theorem dX10_endsHour_204 : decode cX10_endsHour 204 = .ok (.lconst 0, 1) := by decide +kernel
theorem dX10_endsHour_205 : decode cX10_endsHour 205 = .ok (.lastore, 1) := by decide +kernel
theorem dX10_endsHour_206 : decode cX10_endsHour 206 = .ok (.iinc 2 1, 3) := by decide +kernel
theorem dX10_endsHour_209 : decode cX10_endsHour 209 = .ok (.goto (-16), 3) := by decide +kernel
theorem dX10_endsHour_212 : decode cX10_endsHour 212 = .ok (.aload_n 0, 1) := by decide +kernel
theorem dX10_endsHour_213 : decode cX10_endsHour 213 = .ok (.getfield 7, 3) := by decide +kernel
theorem dX10_endsHour_216 : decode cX10_endsHour 216 = .ok (.iconst 0, 1) := by decide +kernel
theorem dX10_endsHour_217 : decode cX10_endsHour 217 = .ok (.laload, 1) := by decide +kernel
theorem dX10_endsHour_218 : decode cX10_endsHour 218 = .ok (.ldc2_w 156, 3) := by decide +kernel
theorem dX10_endsHour_221 : decode cX10_endsHour 221 = .ok (.ldiv, 1) := by decide +kernel
theorem dX10_endsHour_222 : decode cX10_endsHour 222 = .ok (.ldc2_w 158, 3) := by decide +kernel
theorem dX10_endsHour_225 : decode cX10_endsHour 225 = .ok (.lrem, 1) := by decide +kernel
theorem dX10_endsHour_226 : decode cX10_endsHour 226 = .ok (.aload_n 0, 1) := by decide +kernel
theorem dX10_endsHour_227 : decode cX10_endsHour 227 = .ok (.getfield 7, 3) := by decide +kernel
theorem dX10_endsHour_230 : decode cX10_endsHour 230 = .ok (.iconst 5, 1) := by decide +kernel
theorem dX10_endsHour_231 : decode cX10_endsHour 231 = .ok (.laload, 1) := by decide +kernel
theorem dX10_endsHour_232 : decode cX10_endsHour 232 = .ok (.lcmp, 1) := by decide +kernel
theorem dX10_endsHour_233 : decode cX10_endsHour 233 = .ok (.ifCond .ne 7, 3) := by decide +kernel
theorem dX10_endsHour_236 : decode cX10_endsHour 236 = .ok (.aload_n 0, 1) := by decide +kernel
theorem dX10_endsHour_237 : decode cX10_endsHour 237 = .ok (.invokevirtual 160, 3) := by decide +kernel
theorem dX10_endsHour_240 : decode cX10_endsHour 240 = .ok (.return_, 1) := by decide +kernel
set_option maxRecDepth 20000 in
theorem ggX10_endsDay_X10_comes : GoodIn wsX10_endsDay wsX10_comes := goodIn_r _ [6, 1, 7, 8, 9, 10, 11] (by decide +kernel) (by decide +kernel)
set_option maxRecDepth 20000 in
theorem gX10_endsDay_X10_comes : GoodIn wsX10_endsDay (wsV RX10 37 RX10 yX10_comes wsX10_comes) := goodIn_app (goodIn_of _ (by decide +kernel)) ggX10_endsDay_X10_comes
theorem dX10_endsDay_0 : decode cX10_endsDay 0 = .ok (.aload_n 0, 1) := by decide +kernel
theorem dX10_endsDay_1 : decode cX10_endsDay 1 = .ok (.sipush 232, 3) := by decide +kernel
theorem dX10_endsDay_4 : decode cX10_endsDay 4 = .ok (.iconst 4, 1) := by decide +kernel
theorem dX10_endsDay_5 : decode cX10_endsDay 5 = .ok (.iconst 5, 1) := by decide +kernel
theorem dX10_endsDay_6 : decode cX10_endsDay 6 = .ok (.invokevirtual 37, 3) := by decide +kernel
theorem dX10_endsDay_9 : decode cX10_endsDay 9 = .ok (.istore_n 1, 1) := by decide +kernel
theorem dX10_endsDay_10 : decode cX10_endsDay 10 = .ok (.iconst 0, 1) := by decide +kernel
theorem dX10_endsDay_11 : decode cX10_endsDay 11 = .ok (.istore_n 2, 1) := by decide +kernel
theorem dX10_endsDay_12 : decode cX10_endsDay 12 = .ok (.iload_n 2, 1) := by decide +kernel
theorem dX10_endsDay_13 : decode cX10_endsDay 13 = .ok (.iconst 3, 1) := by decide +kernel
theorem dX10_endsDay_14 : decode cX10_endsDay 14 = .ok (.if_icmp .ge 36, 3) := by decide +kernel
theorem dX10_endsDay_17 : decode cX10_endsDay 17 = .ok (.aload_n 0, 1) := by decide +kernel
theorem dX10_endsDay_18 : decode cX10_endsDay 18 = .ok (.getfield 7, 3) := by decide +kernel
theorem dX10_endsDay_21 : decode cX10_endsDay 21 = .ok (.iload_n 1, 1) := by decide +kernel
theorem dX10_endsDay_22 : decode cX10_endsDay 22 = .ok (.iload_n 2, 1) := by decide +kernel
theorem dX10_endsDay_23 : decode cX10_endsDay 23 = .ok (.iadd, 1) := by decide +kernel
theorem dX10_endsDay_24 : decode cX10_endsDay 24 = .ok (.aload_n 0, 1) := by decide +kernel
theorem dX10_endsDay_25 : decode cX10_endsDay 25 = .ok (.getfield 7, 3) := by decide +kernel
theorem dX10_endsDay_28 : decode cX10_endsDay 28 = .ok (.bipush 60, 2) := by decide +kernel
theorem dX10_endsDay_30 : decode cX10_endsDay 30 = .ok (.iload_n 2, 1) := by decide +kernel
theorem dX10_endsDay_31 : decode cX10_endsDay 31 = .ok (.iadd, 1) := by decide +kernel
theorem dX10_endsDay_32 : decode cX10_endsDay 32 = .ok (.laload, 1) := by decide +kernel
theorem dX10_endsDay_33 : decode cX10_endsDay 33 = .ok (.lastore, 1) := by decide +kernel
theorem dX10_endsDay_34 : decode cX10_endsDay 34 = .ok (.aload_n 0, 1) := by decide +kernel
theorem dX10_endsDay_35 : decode cX10_endsDay 35 = .ok (.getfield 7, 3) := by decide +kernel
theorem dX10_endsDay_38 : decode cX10_endsDay 38 = .ok (.bipush 60, 2) := by decide +kernel
theorem dX10_endsDay_40 : decode cX10_endsDay 40 = .ok (.iload_n 2, 1) := by decide +kernel
theorem dX10_endsDay_41 : decode cX10_endsDay 41 = .ok (.iadd, 1) := by decide +kernel
theorem dX10_endsDay_42 : decode cX10_endsDay 42 = .ok (.lconst 0, 1) := by decide +kernel
theorem dX10_endsDay_43 : decode cX10_endsDay 43 = .ok (.lastore, 1) := by decide +kernel
theorem dX10_endsDay_44 : decode cX10_endsDay 44 = .ok (.iinc 2 1, 3) := by decide +kernel
theorem dX10_endsDay_47 : decode cX10_endsDay 47 = .ok (.goto (-35), 3) := by decide +kernel
theorem dX10_endsDay_50 : decode cX10_endsDay 50 = .ok (.aload_n 0, 1) := by decide +kernel
theorem dX10_endsDay_51 : decode cX10_endsDay 51 = .ok (.getfield 7, 3) := by decide +kernel
theorem dX10_endsDay_54 : decode cX10_endsDay 54 = .ok (.iload_n 1, 1) := by decide +kernel
theorem dX10_endsDay_55 : decode cX10_endsDay 55 = .ok (.iconst 3, 1) := by decide +kernel
theorem dX10_endsDay_56 : decode cX10_endsDay 56 = .ok (.iadd, 1) := by decide +kernel
theorem dX10_endsDay_57 : decode cX10_endsDay 57 = .ok (.aload_n 0, 1) := by decide +kernel
theorem dX10_endsDay_58 : decode cX10_endsDay 58 = .ok (.getfield 7, 3) := by decide +kernel
theorem dX10_endsDay_61 : decode cX10_endsDay 61 = .ok (.iconst 0, 1) := by decide +kernel
theorem dX10_endsDay_62 : decode cX10_endsDay 62 = .ok (.laload, 1) := by decide +kernel
theorem dX10_endsDay_63 : decode cX10_endsDay 63 = .ok (.lastore, 1) := by decide +kernel
theorem dX10_endsDay_64 : decode cX10_endsDay 64 = .ok (.return_, 1) := by decide +kernel
set_option maxRecDepth 20000 in
theorem ggX10_run_X10_in : GoodIn wsX10_run wsX10_in := goodIn_r _ [7] (by decide +kernel) (by decide +kernel)
set_option maxRecDepth 20000 in
theorem gX10_run_X10_in : GoodIn wsX10_run (va_wsS RX10 50 yX10_in wsX10_in) := goodIn_app (goodIn_of _ (by decide +kernel)) ggX10_run_X10_in
set_option maxRecDepth 20000 in
theorem ggX10_run_X10_fails : GoodIn wsX10_run wsX10_fails := goodIn_r _ [11, 12, 113, 114, 115, 116, 117] (by decide +kernel) (by decide +kernel)
set_option maxRecDepth 20000 in
theorem gX10_run_X10_fails : GoodIn wsX10_run (wsV RX10 58 RX10 yX10_fails wsX10_fails) := goodIn_app (goodIn_of _ (by decide +kernel)) ggX10_run_X10_fails
set_option maxRecDepth 20000 in
theorem ggX10_run_X10_save : GoodIn wsX10_run wsX10_save := goodIn_r _ [16, 12, 17, 18, 2, 113, 114, 115, 116, 117] (by decide +kernel) (by decide +kernel)
set_option maxRecDepth 20000 in
theorem gX10_run_X10_save : GoodIn wsX10_run (wsV RX10 41 RX10 yX10_save wsX10_save) := goodIn_app (goodIn_of _ (by decide +kernel)) ggX10_run_X10_save
set_option maxRecDepth 20000 in
theorem ggX10_run_X10_senses : GoodIn wsX10_run wsX10_senses := goodIn_r _ [22, 2, 23, 24, 25, 6, 26, 27, 28, 29, 30, 31, 32, 33, 34, 35, 36, 37, 38, 39, 40, 41, 42, 43, 44, 45, 113, 114, 115, 116, 117] (by decide +kernel) (by decide +kernel)
set_option maxRecDepth 20000 in
theorem gX10_run_X10_senses : GoodIn wsX10_run (wsV RX10 163 RX10 yX10_senses wsX10_senses) := goodIn_app (goodIn_of _ (by decide +kernel)) ggX10_run_X10_senses
set_option maxRecDepth 20000 in
theorem ggX10_run_X10_ranges : GoodIn wsX10_run wsX10_ranges := goodIn_r _ [49, 2, 50, 51, 52, 53, 54, 6, 55, 56, 57, 58, 23, 24, 25, 26, 27, 28, 29, 30, 31, 32, 33, 34, 35, 113, 114, 115, 116, 117] (by decide +kernel) (by decide +kernel)
set_option maxRecDepth 20000 in
theorem gX10_run_X10_ranges : GoodIn wsX10_run (wsV RX10 166 RX10 yX10_ranges wsX10_ranges) := goodIn_app (goodIn_of _ (by decide +kernel)) ggX10_run_X10_ranges
set_option maxRecDepth 20000 in
theorem ggX10_run_X10_flows : GoodIn wsX10_run wsX10_flows := goodIn_r _ [62, 2, 63, 64, 65, 66, 6, 67, 68, 69, 70, 71, 72, 73, 43, 44, 45, 74, 75, 76, 77, 57, 78, 79, 80, 81, 82, 83, 84, 85, 86, 87, 88, 89, 90, 91, 92, 93, 94, 113, 114, 115, 116, 117] (by decide +kernel) (by decide +kernel)
set_option maxRecDepth 20000 in
theorem gX10_run_X10_flows : GoodIn wsX10_run (wsV RX10 169 RX10 yX10_flows wsX10_flows) := goodIn_app (goodIn_of _ (by decide +kernel)) ggX10_run_X10_flows
set_option maxRecDepth 20000 in
theorem ggX10_run_X10_loads : GoodIn wsX10_run wsX10_loads := goodIn_r _ [98, 2, 85, 28, 29, 30, 6, 31, 32, 33, 34, 35, 113, 114, 115, 116, 117] (by decide +kernel) (by decide +kernel)
set_option maxRecDepth 20000 in
theorem gX10_run_X10_loads : GoodIn wsX10_run (wsV RX10 172 RX10 yX10_loads wsX10_loads) := goodIn_app (goodIn_of _ (by decide +kernel)) ggX10_run_X10_loads
set_option maxRecDepth 20000 in
theorem ggX10_run_X10_counts : GoodIn wsX10_run wsX10_counts := goodIn_r _ [102, 2, 103, 23, 24, 25, 6, 26, 27, 113, 114, 115, 116, 117] (by decide +kernel) (by decide +kernel)
set_option maxRecDepth 20000 in
theorem gX10_run_X10_counts : GoodIn wsX10_run (wsV RX10 175 RX10 yX10_counts wsX10_counts) := goodIn_app (goodIn_of _ (by decide +kernel)) ggX10_run_X10_counts
set_option maxRecDepth 20000 in
theorem ggX10_run_X10_endsHour : GoodIn wsX10_run wsX10_endsHour := goodIn_r _ [107, 2, 3, 108, 32, 33, 34, 6, 35, 43, 44, 45, 109, 110, 111, 112, 113, 114, 115, 116, 117] (by decide +kernel) (by decide +kernel)
set_option maxRecDepth 20000 in
theorem gX10_run_X10_endsHour : GoodIn wsX10_run (wsV RX10 178 RX10 yX10_endsHour wsX10_endsHour) := goodIn_app (goodIn_of _ (by decide +kernel)) ggX10_run_X10_endsHour
theorem dX10_run_0 : decode cX10_run 0 = .ok (.iload_n 1, 1) := by decide +kernel
theorem dX10_run_1 : decode cX10_run 1 = .ok (.i2l, 1) := by decide +kernel
theorem dX10_run_2 : decode cX10_run 2 = .ok (.lconst 1, 1) := by decide +kernel
theorem dX10_run_3 : decode cX10_run 3 = .ok (.ldc2_w 74, 3) := by decide +kernel
theorem dX10_run_6 : decode cX10_run 6 = .ok (.invokestatic 50, 3) := by decide +kernel
theorem dX10_run_9 : decode cX10_run 9 = .ok (.ifCond .ne 10, 3) := by decide +kernel
theorem dX10_run_12 : decode cX10_run 12 = .ok (.aload_n 0, 1) := by decide +kernel
theorem dX10_run_13 : decode cX10_run 13 = .ok (.iconst 1, 1) := by decide +kernel
theorem dX10_run_14 : decode cX10_run 14 = .ok (.invokevirtual 58, 3) := by decide +kernel
theorem dX10_run_17 : decode cX10_run 17 = .ok (.i2l, 1) := by decide +kernel
theorem dX10_run_18 : decode cX10_run 18 = .ok (.lreturn, 1) := by decide +kernel
theorem dX10_run_19 : decode cX10_run 19 = .ok (.aload_n 0, 1) := by decide +kernel
theorem dX10_run_20 : decode cX10_run 20 = .ok (.invokevirtual 41, 3) := by decide +kernel
theorem dX10_run_23 : decode cX10_run 23 = .ok (.aload_n 0, 1) := by decide +kernel
theorem dX10_run_24 : decode cX10_run 24 = .ok (.getfield 7, 3) := by decide +kernel
theorem dX10_run_27 : decode cX10_run 27 = .ok (.bipush 42, 2) := by decide +kernel
theorem dX10_run_29 : decode cX10_run 29 = .ok (.laload, 1) := by decide +kernel
theorem dX10_run_30 : decode cX10_run 30 = .ok (.lstore_n 2, 1) := by decide +kernel
theorem dX10_run_31 : decode cX10_run 31 = .ok (.iconst 0, 1) := by decide +kernel
theorem dX10_run_32 : decode cX10_run 32 = .ok (.istore 4, 2) := by decide +kernel
theorem dX10_run_34 : decode cX10_run 34 = .ok (.iload 4, 2) := by decide +kernel
theorem dX10_run_36 : decode cX10_run 36 = .ok (.iload_n 1, 1) := by decide +kernel
theorem dX10_run_37 : decode cX10_run 37 = .ok (.if_icmp .ge 58, 3) := by decide +kernel
theorem dX10_run_40 : decode cX10_run 40 = .ok (.aload_n 0, 1) := by decide +kernel
theorem dX10_run_41 : decode cX10_run 41 = .ok (.getfield 7, 3) := by decide +kernel
theorem dX10_run_44 : decode cX10_run 44 = .ok (.iconst 0, 1) := by decide +kernel
theorem dX10_run_45 : decode cX10_run 45 = .ok (.dup2, 1) := by decide +kernel
theorem dX10_run_46 : decode cX10_run 46 = .ok (.laload, 1) := by decide +kernel
theorem dX10_run_47 : decode cX10_run 47 = .ok (.lconst 1, 1) := by decide +kernel
theorem dX10_run_48 : decode cX10_run 48 = .ok (.ladd, 1) := by decide +kernel
theorem dX10_run_49 : decode cX10_run 49 = .ok (.lastore, 1) := by decide +kernel
theorem dX10_run_50 : decode cX10_run 50 = .ok (.aload_n 0, 1) := by decide +kernel
theorem dX10_run_51 : decode cX10_run 51 = .ok (.invokevirtual 163, 3) := by decide +kernel
theorem dX10_run_54 : decode cX10_run 54 = .ok (.aload_n 0, 1) := by decide +kernel
theorem dX10_run_55 : decode cX10_run 55 = .ok (.invokevirtual 166, 3) := by decide +kernel
theorem dX10_run_58 : decode cX10_run 58 = .ok (.aload_n 0, 1) := by decide +kernel
theorem dX10_run_59 : decode cX10_run 59 = .ok (.invokevirtual 169, 3) := by decide +kernel
theorem dX10_run_62 : decode cX10_run 62 = .ok (.aload_n 0, 1) := by decide +kernel
theorem dX10_run_63 : decode cX10_run 63 = .ok (.invokevirtual 172, 3) := by decide +kernel
theorem dX10_run_66 : decode cX10_run 66 = .ok (.aload_n 0, 1) := by decide +kernel
theorem dX10_run_67 : decode cX10_run 67 = .ok (.invokevirtual 175, 3) := by decide +kernel
theorem dX10_run_70 : decode cX10_run 70 = .ok (.aload_n 0, 1) := by decide +kernel
theorem dX10_run_71 : decode cX10_run 71 = .ok (.getfield 7, 3) := by decide +kernel
theorem dX10_run_74 : decode cX10_run 74 = .ok (.iconst 0, 1) := by decide +kernel
theorem dX10_run_75 : decode cX10_run 75 = .ok (.laload, 1) := by decide +kernel
theorem dX10_run_76 : decode cX10_run 76 = .ok (.ldc2_w 156, 3) := by decide +kernel
theorem dX10_run_79 : decode cX10_run 79 = .ok (.lrem, 1) := by decide +kernel
theorem dX10_run_80 : decode cX10_run 80 = .ok (.lconst 0, 1) := by decide +kernel
theorem dX10_run_81 : decode cX10_run 81 = .ok (.lcmp, 1) := by decide +kernel
theorem dX10_run_82 : decode cX10_run 82 = .ok (.ifCond .ne 7, 3) := by decide +kernel
theorem dX10_run_85 : decode cX10_run 85 = .ok (.aload_n 0, 1) := by decide +kernel
theorem dX10_run_86 : decode cX10_run 86 = .ok (.invokevirtual 178, 3) := by decide +kernel
theorem dX10_run_89 : decode cX10_run 89 = .ok (.iinc 4 1, 3) := by decide +kernel
theorem dX10_run_92 : decode cX10_run 92 = .ok (.goto (-58), 3) := by decide +kernel
theorem dX10_run_95 : decode cX10_run 95 = .ok (.aload_n 0, 1) := by decide +kernel
theorem dX10_run_96 : decode cX10_run 96 = .ok (.getfield 7, 3) := by decide +kernel
theorem dX10_run_99 : decode cX10_run 99 = .ok (.bipush 42, 2) := by decide +kernel
theorem dX10_run_101 : decode cX10_run 101 = .ok (.laload, 1) := by decide +kernel
theorem dX10_run_102 : decode cX10_run 102 = .ok (.lload_n 2, 1) := by decide +kernel
theorem dX10_run_103 : decode cX10_run 103 = .ok (.lsub, 1) := by decide +kernel
theorem dX10_run_104 : decode cX10_run 104 = .ok (.lreturn, 1) := by decide +kernel
set_option maxRecDepth 20000 in
theorem ggX10_openBatch_X10_in : GoodIn wsX10_openBatch wsX10_in := goodIn_r _ [7] (by decide +kernel) (by decide +kernel)
set_option maxRecDepth 20000 in
theorem gX10_openBatch_X10_in : GoodIn wsX10_openBatch (va_wsS RX10 50 yX10_in wsX10_in) := goodIn_app (goodIn_of _ (by decide +kernel)) ggX10_openBatch_X10_in
set_option maxRecDepth 20000 in
theorem ggX10_openBatch_X10_fails : GoodIn wsX10_openBatch wsX10_fails := goodIn_r _ [11, 12, 19, 20, 21, 22, 23] (by decide +kernel) (by decide +kernel)
set_option maxRecDepth 20000 in
theorem gX10_openBatch_X10_fails : GoodIn wsX10_openBatch (wsV RX10 58 RX10 yX10_fails wsX10_fails) := goodIn_app (goodIn_of _ (by decide +kernel)) ggX10_openBatch_X10_fails
set_option maxRecDepth 20000 in
theorem ggX10_openBatch_X10_save : GoodIn wsX10_openBatch wsX10_save := goodIn_r _ [16, 12, 17, 18, 2, 19, 20, 21, 22, 23] (by decide +kernel) (by decide +kernel)
set_option maxRecDepth 20000 in
theorem gX10_openBatch_X10_save : GoodIn wsX10_openBatch (wsV RX10 41 RX10 yX10_save wsX10_save) := goodIn_app (goodIn_of _ (by decide +kernel)) ggX10_openBatch_X10_save
theorem dX10_openBatch_0 : decode cX10_openBatch 0 = .ok (.iload_n 1, 1) := by decide +kernel
theorem dX10_openBatch_1 : decode cX10_openBatch 1 = .ok (.i2l, 1) := by decide +kernel
theorem dX10_openBatch_2 : decode cX10_openBatch 2 = .ok (.lconst 1, 1) := by decide +kernel
theorem dX10_openBatch_3 : decode cX10_openBatch 3 = .ok (.ldc2_w 181, 3) := by decide +kernel
theorem dX10_openBatch_6 : decode cX10_openBatch 6 = .ok (.invokestatic 50, 3) := by decide +kernel
theorem dX10_openBatch_9 : decode cX10_openBatch 9 = .ok (.ifCond .eq 15, 3) := by decide +kernel
theorem dX10_openBatch_12 : decode cX10_openBatch 12 = .ok (.iload_n 2, 1) := by decide +kernel
theorem dX10_openBatch_13 : decode cX10_openBatch 13 = .ok (.i2l, 1) := by decide +kernel
theorem dX10_openBatch_14 : decode cX10_openBatch 14 = .ok (.lconst 0, 1) := by decide +kernel
theorem dX10_openBatch_15 : decode cX10_openBatch 15 = .ok (.ldc2_w 181, 3) := by decide +kernel
theorem dX10_openBatch_18 : decode cX10_openBatch 18 = .ok (.invokestatic 50, 3) := by decide +kernel
theorem dX10_openBatch_21 : decode cX10_openBatch 21 = .ok (.ifCond .ne 9, 3) := by decide +kernel
theorem dX10_openBatch_24 : decode cX10_openBatch 24 = .ok (.aload_n 0, 1) := by decide +kernel
theorem dX10_openBatch_25 : decode cX10_openBatch 25 = .ok (.iconst 1, 1) := by decide +kernel
theorem dX10_openBatch_26 : decode cX10_openBatch 26 = .ok (.invokevirtual 58, 3) := by decide +kernel
theorem dX10_openBatch_29 : decode cX10_openBatch 29 = .ok (.ireturn, 1) := by decide +kernel
theorem dX10_openBatch_30 : decode cX10_openBatch 30 = .ok (.aload_n 0, 1) := by decide +kernel
theorem dX10_openBatch_31 : decode cX10_openBatch 31 = .ok (.getfield 7, 3) := by decide +kernel
theorem dX10_openBatch_34 : decode cX10_openBatch 34 = .ok (.bipush 45, 2) := by decide +kernel
theorem dX10_openBatch_36 : decode cX10_openBatch 36 = .ok (.laload, 1) := by decide +kernel
theorem dX10_openBatch_37 : decode cX10_openBatch 37 = .ok (.lconst 1, 1) := by decide +kernel
theorem dX10_openBatch_38 : decode cX10_openBatch 38 = .ok (.lcmp, 1) := by decide +kernel
theorem dX10_openBatch_39 : decode cX10_openBatch 39 = .ok (.ifCond .ne 9, 3) := by decide +kernel
theorem dX10_openBatch_42 : decode cX10_openBatch 42 = .ok (.aload_n 0, 1) := by decide +kernel
theorem dX10_openBatch_43 : decode cX10_openBatch 43 = .ok (.iconst 2, 1) := by decide +kernel
theorem dX10_openBatch_44 : decode cX10_openBatch 44 = .ok (.invokevirtual 58, 3) := by decide +kernel
theorem dX10_openBatch_47 : decode cX10_openBatch 47 = .ok (.ireturn, 1) := by decide +kernel
theorem dX10_openBatch_48 : decode cX10_openBatch 48 = .ok (.aload_n 0, 1) := by decide +kernel
theorem dX10_openBatch_49 : decode cX10_openBatch 49 = .ok (.invokevirtual 41, 3) := by decide +kernel
theorem dX10_openBatch_52 : decode cX10_openBatch 52 = .ok (.aload_n 0, 1) := by decide +kernel
theorem dX10_openBatch_53 : decode cX10_openBatch 53 = .ok (.getfield 7, 3) := by decide +kernel
theorem dX10_openBatch_56 : decode cX10_openBatch 56 = .ok (.bipush 45, 2) := by decide +kernel
theorem dX10_openBatch_58 : decode cX10_openBatch 58 = .ok (.lconst 1, 1) := by decide +kernel
theorem dX10_openBatch_59 : decode cX10_openBatch 59 = .ok (.lastore, 1) := by decide +kernel
theorem dX10_openBatch_60 : decode cX10_openBatch 60 = .ok (.aload_n 0, 1) := by decide +kernel
theorem dX10_openBatch_61 : decode cX10_openBatch 61 = .ok (.getfield 7, 3) := by decide +kernel
theorem dX10_openBatch_64 : decode cX10_openBatch 64 = .ok (.bipush 44, 2) := by decide +kernel
theorem dX10_openBatch_66 : decode cX10_openBatch 66 = .ok (.lconst 0, 1) := by decide +kernel
theorem dX10_openBatch_67 : decode cX10_openBatch 67 = .ok (.lastore, 1) := by decide +kernel
theorem dX10_openBatch_68 : decode cX10_openBatch 68 = .ok (.aload_n 0, 1) := by decide +kernel
theorem dX10_openBatch_69 : decode cX10_openBatch 69 = .ok (.getfield 7, 3) := by decide +kernel
theorem dX10_openBatch_72 : decode cX10_openBatch 72 = .ok (.bipush 46, 2) := by decide +kernel
theorem dX10_openBatch_74 : decode cX10_openBatch 74 = .ok (.iload_n 1, 1) := by decide +kernel
theorem dX10_openBatch_75 : decode cX10_openBatch 75 = .ok (.i2l, 1) := by decide +kernel
theorem dX10_openBatch_76 : decode cX10_openBatch 76 = .ok (.lastore, 1) := by decide +kernel
theorem dX10_openBatch_77 : decode cX10_openBatch 77 = .ok (.aload_n 0, 1) := by decide +kernel
theorem dX10_openBatch_78 : decode cX10_openBatch 78 = .ok (.getfield 7, 3) := by decide +kernel
theorem dX10_openBatch_81 : decode cX10_openBatch 81 = .ok (.bipush 47, 2) := by decide +kernel
theorem dX10_openBatch_83 : decode cX10_openBatch 83 = .ok (.iload_n 2, 1) := by decide +kernel
theorem dX10_openBatch_84 : decode cX10_openBatch 84 = .ok (.i2l, 1) := by decide +kernel
theorem dX10_openBatch_85 : decode cX10_openBatch 85 = .ok (.lastore, 1) := by decide +kernel
theorem dX10_openBatch_86 : decode cX10_openBatch 86 = .ok (.aload_n 0, 1) := by decide +kernel
theorem dX10_openBatch_87 : decode cX10_openBatch 87 = .ok (.getfield 7, 3) := by decide +kernel
theorem dX10_openBatch_90 : decode cX10_openBatch 90 = .ok (.bipush 49, 2) := by decide +kernel
theorem dX10_openBatch_92 : decode cX10_openBatch 92 = .ok (.iload_n 1, 1) := by decide +kernel
theorem dX10_openBatch_93 : decode cX10_openBatch 93 = .ok (.iload_n 2, 1) := by decide +kernel
theorem dX10_openBatch_94 : decode cX10_openBatch 94 = .ok (.if_icmp .gt 7, 3) := by decide +kernel
theorem dX10_openBatch_97 : decode cX10_openBatch 97 = .ok (.lconst 1, 1) := by decide +kernel
theorem dX10_openBatch_98 : decode cX10_openBatch 98 = .ok (.goto 6, 3) := by decide +kernel
theorem dX10_openBatch_101 : decode cX10_openBatch 101 = .ok (.ldc2_w 114, 3) := by decide +kernel
theorem dX10_openBatch_104 : decode cX10_openBatch 104 = .ok (.lastore, 1) := by decide +kernel
theorem dX10_openBatch_105 : decode cX10_openBatch 105 = .ok (.aload_n 0, 1) := by decide +kernel
theorem dX10_openBatch_106 : decode cX10_openBatch 106 = .ok (.getfield 7, 3) := by decide +kernel
theorem dX10_openBatch_109 : decode cX10_openBatch 109 = .ok (.bipush 48, 2) := by decide +kernel
theorem dX10_openBatch_111 : decode cX10_openBatch 111 = .ok (.dup2, 1) := by decide +kernel
theorem dX10_openBatch_112 : decode cX10_openBatch 112 = .ok (.laload, 1) := by decide +kernel
theorem dX10_openBatch_113 : decode cX10_openBatch 113 = .ok (.lconst 1, 1) := by decide +kernel
theorem dX10_openBatch_114 : decode cX10_openBatch 114 = .ok (.ladd, 1) := by decide +kernel
theorem dX10_openBatch_115 : decode cX10_openBatch 115 = .ok (.lastore, 1) := by decide +kernel
theorem dX10_openBatch_116 : decode cX10_openBatch 116 = .ok (.aload_n 0, 1) := by decide +kernel
theorem dX10_openBatch_117 : decode cX10_openBatch 117 = .ok (.getfield 7, 3) := by decide +kernel
theorem dX10_openBatch_120 : decode cX10_openBatch 120 = .ok (.bipush 48, 2) := by decide +kernel
theorem dX10_openBatch_122 : decode cX10_openBatch 122 = .ok (.laload, 1) := by decide +kernel
theorem dX10_openBatch_123 : decode cX10_openBatch 123 = .ok (.l2i, 1) := by decide +kernel
theorem dX10_openBatch_124 : decode cX10_openBatch 124 = .ok (.ireturn, 1) := by decide +kernel
set_option maxRecDepth 20000 in
theorem ggX10_closeBatch_X10_fails : GoodIn wsX10_closeBatch wsX10_fails := goodIn_r _ [6, 7, 14, 15, 16, 17, 18] (by decide +kernel) (by decide +kernel)
set_option maxRecDepth 20000 in
theorem gX10_closeBatch_X10_fails : GoodIn wsX10_closeBatch (wsV RX10 58 RX10 yX10_fails wsX10_fails) := goodIn_app (goodIn_of _ (by decide +kernel)) ggX10_closeBatch_X10_fails
set_option maxRecDepth 20000 in
theorem ggX10_closeBatch_X10_save : GoodIn wsX10_closeBatch wsX10_save := goodIn_r _ [11, 7, 12, 13, 1, 14, 15, 16, 17, 18] (by decide +kernel) (by decide +kernel)
set_option maxRecDepth 20000 in
theorem gX10_closeBatch_X10_save : GoodIn wsX10_closeBatch (wsV RX10 41 RX10 yX10_save wsX10_save) := goodIn_app (goodIn_of _ (by decide +kernel)) ggX10_closeBatch_X10_save

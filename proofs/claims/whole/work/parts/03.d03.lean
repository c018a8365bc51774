theorem dX10_init_90 : decode cX10_init 90 = .ok (.iinc 1 1, 3) := by decide +kernel
theorem dX10_init_93 : decode cX10_init 93 = .ok (.goto (-20), 3) := by decide +kernel
theorem dX10_init_96 : decode cX10_init 96 = .ok (.aload_n 0, 1) := by decide +kernel
theorem dX10_init_97 : decode cX10_init 97 = .ok (.getfield 7, 3) := by decide +kernel
theorem dX10_init_100 : decode cX10_init 100 = .ok (.bipush 21, 2) := by decide +kernel
theorem dX10_init_102 : decode cX10_init 102 = .ok (.ldc2_w 28, 3) := by decide +kernel
theorem dX10_init_105 : decode cX10_init 105 = .ok (.lastore, 1) := by decide +kernel
theorem dX10_init_106 : decode cX10_init 106 = .ok (.iconst 0, 1) := by decide +kernel
theorem dX10_init_107 : decode cX10_init 107 = .ok (.istore_n 1, 1) := by decide +kernel
theorem dX10_init_108 : decode cX10_init 108 = .ok (.iload_n 1, 1) := by decide +kernel
theorem dX10_init_109 : decode cX10_init 109 = .ok (.bipush 11, 2) := by decide +kernel
theorem dX10_init_111 : decode cX10_init 111 = .ok (.if_icmp .ge 21, 3) := by decide +kernel
theorem dX10_init_114 : decode cX10_init 114 = .ok (.aload_n 0, 1) := by decide +kernel
theorem dX10_init_115 : decode cX10_init 115 = .ok (.getfield 7, 3) := by decide +kernel
theorem dX10_init_118 : decode cX10_init 118 = .ok (.bipush 26, 2) := by decide +kernel
theorem dX10_init_120 : decode cX10_init 120 = .ok (.iload_n 1, 1) := by decide +kernel
theorem dX10_init_121 : decode cX10_init 121 = .ok (.iadd, 1) := by decide +kernel
theorem dX10_init_122 : decode cX10_init 122 = .ok (.ldc2_w 22, 3) := by decide +kernel
theorem dX10_init_125 : decode cX10_init 125 = .ok (.lastore, 1) := by decide +kernel
theorem dX10_init_126 : decode cX10_init 126 = .ok (.iinc 1 1, 3) := by decide +kernel
theorem dX10_init_129 : decode cX10_init 129 = .ok (.goto (-21), 3) := by decide +kernel
theorem dX10_init_132 : decode cX10_init 132 = .ok (.aload_n 0, 1) := by decide +kernel
theorem dX10_init_133 : decode cX10_init 133 = .ok (.getfield 7, 3) := by decide +kernel
theorem dX10_init_136 : decode cX10_init 136 = .ok (.bipush 41, 2) := by decide +kernel
theorem dX10_init_138 : decode cX10_init 138 = .ok (.lconst 1, 1) := by decide +kernel
theorem dX10_init_139 : decode cX10_init 139 = .ok (.lastore, 1) := by decide +kernel
theorem dX10_init_140 : decode cX10_init 140 = .ok (.return_, 1) := by decide +kernel
theorem dX10_thrown_0 : decode cX10_thrown 0 = .ok (.aload_n 0, 1) := by decide +kernel
theorem dX10_thrown_1 : decode cX10_thrown 1 = .ok (.getfield 30, 3) := by decide +kernel
theorem dX10_thrown_4 : decode cX10_thrown 4 = .ok (.ireturn, 1) := by decide +kernel
theorem dX10_in_0 : decode cX10_in 0 = .ok (.lload_n 0, 1) := by decide +kernel
theorem dX10_in_1 : decode cX10_in 1 = .ok (.lload_n 2, 1) := by decide +kernel
theorem dX10_in_2 : decode cX10_in 2 = .ok (.lcmp, 1) := by decide +kernel
theorem dX10_in_3 : decode cX10_in 3 = .ok (.ifCond .lt 14, 3) := by decide +kernel
theorem dX10_in_6 : decode cX10_in 6 = .ok (.lload_n 0, 1) := by decide +kernel
theorem dX10_in_7 : decode cX10_in 7 = .ok (.lload 4, 2) := by decide +kernel
theorem dX10_in_9 : decode cX10_in 9 = .ok (.lcmp, 1) := by decide +kernel
theorem dX10_in_10 : decode cX10_in 10 = .ok (.ifCond .gt 7, 3) := by decide +kernel
theorem dX10_in_13 : decode cX10_in 13 = .ok (.iconst 1, 1) := by decide +kernel
theorem dX10_in_14 : decode cX10_in 14 = .ok (.goto 4, 3) := by decide +kernel
theorem dX10_in_17 : decode cX10_in 17 = .ok (.iconst 0, 1) := by decide +kernel
theorem dX10_in_18 : decode cX10_in 18 = .ok (.ireturn, 1) := by decide +kernel
theorem dX10_fails_0 : decode cX10_fails 0 = .ok (.aload_n 0, 1) := by decide +kernel
theorem dX10_fails_1 : decode cX10_fails 1 = .ok (.iload_n 1, 1) := by decide +kernel
theorem dX10_fails_2 : decode cX10_fails 2 = .ok (.putfield 30, 3) := by decide +kernel
theorem dX10_fails_5 : decode cX10_fails 5 = .ok (.iconst 0, 1) := by decide +kernel
theorem dX10_fails_6 : decode cX10_fails 6 = .ok (.ireturn, 1) := by decide +kernel
theorem dX10_tells_0 : decode cX10_tells 0 = .ok (.aload_n 0, 1) := by decide +kernel
theorem dX10_tells_1 : decode cX10_tells 1 = .ok (.iconst 0, 1) := by decide +kernel
theorem dX10_tells_2 : decode cX10_tells 2 = .ok (.putfield 30, 3) := by decide +kernel
theorem dX10_tells_5 : decode cX10_tells 5 = .ok (.lload_n 1, 1) := by decide +kernel
theorem dX10_tells_6 : decode cX10_tells 6 = .ok (.l2i, 1) := by decide +kernel
theorem dX10_tells_7 : decode cX10_tells 7 = .ok (.ireturn, 1) := by decide +kernel
theorem dX10_floor_0 : decode cX10_floor 0 = .ok (.lload_n 0, 1) := by decide +kernel
theorem dX10_floor_1 : decode cX10_floor 1 = .ok (.lload_n 2, 1) := by decide +kernel
theorem dX10_floor_2 : decode cX10_floor 2 = .ok (.ldiv, 1) := by decide +kernel
theorem dX10_floor_3 : decode cX10_floor 3 = .ok (.lstore 4, 2) := by decide +kernel
theorem dX10_floor_5 : decode cX10_floor 5 = .ok (.lload_n 0, 1) := by decide +kernel
theorem dX10_floor_6 : decode cX10_floor 6 = .ok (.lload_n 2, 1) := by decide +kernel
theorem dX10_floor_7 : decode cX10_floor 7 = .ok (.lrem, 1) := by decide +kernel
theorem dX10_floor_8 : decode cX10_floor 8 = .ok (.lconst 0, 1) := by decide +kernel
theorem dX10_floor_9 : decode cX10_floor 9 = .ok (.lcmp, 1) := by decide +kernel
theorem dX10_floor_10 : decode cX10_floor 10 = .ok (.ifCond .eq 35, 3) := by decide +kernel
theorem dX10_floor_13 : decode cX10_floor 13 = .ok (.lload_n 0, 1) := by decide +kernel
theorem dX10_floor_14 : decode cX10_floor 14 = .ok (.lconst 0, 1) := by decide +kernel
theorem dX10_floor_15 : decode cX10_floor 15 = .ok (.lcmp, 1) := by decide +kernel
theorem dX10_floor_16 : decode cX10_floor 16 = .ok (.ifCond .ge 7, 3) := by decide +kernel
theorem dX10_floor_19 : decode cX10_floor 19 = .ok (.iconst 1, 1) := by decide +kernel
theorem dX10_floor_20 : decode cX10_floor 20 = .ok (.goto 4, 3) := by decide +kernel
theorem dX10_floor_23 : decode cX10_floor 23 = .ok (.iconst 0, 1) := by decide +kernel
theorem dX10_floor_24 : decode cX10_floor 24 = .ok (.lload_n 2, 1) := by decide +kernel
theorem dX10_floor_25 : decode cX10_floor 25 = .ok (.lconst 0, 1) := by decide +kernel
theorem dX10_floor_26 : decode cX10_floor 26 = .ok (.lcmp, 1) := by decide +kernel
theorem dX10_floor_27 : decode cX10_floor 27 = .ok (.ifCond .ge 7, 3) := by decide +kernel
theorem dX10_floor_30 : decode cX10_floor 30 = .ok (.iconst 1, 1) := by decide +kernel
theorem dX10_floor_31 : decode cX10_floor 31 = .ok (.goto 4, 3) := by decide +kernel
theorem dX10_floor_34 : decode cX10_floor 34 = .ok (.iconst 0, 1) := by decide +kernel
theorem dX10_floor_35 : decode cX10_floor 35 = .ok (.if_icmp .eq 10, 3) := by decide +kernel
theorem dX10_floor_38 : decode cX10_floor 38 = .ok (.lload 4, 2) := by decide +kernel
theorem dX10_floor_40 : decode cX10_floor 40 = .ok (.lconst 1, 1) := by decide +kernel
theorem dX10_floor_41 : decode cX10_floor 41 = .ok (.lsub, 1) := by decide +kernel
theorem dX10_floor_42 : decode cX10_floor 42 = .ok (.goto 5, 3) := by decide +kernel
theorem dX10_floor_45 : decode cX10_floor 45 = .ok (.lload 4, 2) := by decide +kernel
theorem dX10_floor_47 : decode cX10_floor 47 = .ok (.lreturn, 1) := by decide +kernel
theorem dX10_save_0 : decode cX10_save 0 = .ok (.aload_n 0, 1) := by decide +kernel
theorem dX10_save_1 : decode cX10_save 1 = .ok (.iconst 0, 1) := by decide +kernel
theorem dX10_save_2 : decode cX10_save 2 = .ok (.putfield 30, 3) := by decide +kernel
theorem dX10_save_5 : decode cX10_save 5 = .ok (.aload_n 0, 1) := by decide +kernel
theorem dX10_save_6 : decode cX10_save 6 = .ok (.getfield 34, 3) := by decide +kernel
theorem dX10_save_9 : decode cX10_save 9 = .ok (.iconst 3, 1) := by decide +kernel
theorem dX10_save_10 : decode cX10_save 10 = .ok (.if_icmp .ne 44, 3) := by decide +kernel
theorem dX10_save_13 : decode cX10_save 13 = .ok (.iconst 0, 1) := by decide +kernel
theorem dX10_save_14 : decode cX10_save 14 = .ok (.istore_n 1, 1) := by decide +kernel
theorem dX10_save_15 : decode cX10_save 15 = .ok (.iload_n 1, 1) := by decide +kernel
theorem dX10_save_16 : decode cX10_save 16 = .ok (.sipush 688, 3) := by decide +kernel
theorem dX10_save_19 : decode cX10_save 19 = .ok (.if_icmp .ge 25, 3) := by decide +kernel
theorem dX10_save_22 : decode cX10_save 22 = .ok (.aload_n 0, 1) := by decide +kernel
theorem dX10_save_23 : decode cX10_save 23 = .ok (.getfield 13, 3) := by decide +kernel
theorem dX10_save_26 : decode cX10_save 26 = .ok (.iload_n 1, 1) := by decide +kernel
theorem dX10_save_27 : decode cX10_save 27 = .ok (.aload_n 0, 1) := by decide +kernel
theorem dX10_save_28 : decode cX10_save 28 = .ok (.getfield 13, 3) := by decide +kernel
theorem dX10_save_31 : decode cX10_save 31 = .ok (.iload_n 1, 1) := by decide +kernel
theorem dX10_save_32 : decode cX10_save 32 = .ok (.sipush 344, 3) := by decide +kernel
theorem dX10_save_35 : decode cX10_save 35 = .ok (.iadd, 1) := by decide +kernel
theorem dX10_save_36 : decode cX10_save 36 = .ok (.laload, 1) := by decide +kernel
theorem dX10_save_37 : decode cX10_save 37 = .ok (.lastore, 1) := by decide +kernel
theorem dX10_save_38 : decode cX10_save 38 = .ok (.iinc 1 1, 3) := by decide +kernel
theorem dX10_save_41 : decode cX10_save 41 = .ok (.goto (-26), 3) := by decide +kernel
theorem dX10_save_44 : decode cX10_save 44 = .ok (.aload_n 0, 1) := by decide +kernel
theorem dX10_save_45 : decode cX10_save 45 = .ok (.dup, 1) := by decide +kernel
theorem dX10_save_46 : decode cX10_save 46 = .ok (.getfield 34, 3) := by decide +kernel
theorem dX10_save_49 : decode cX10_save 49 = .ok (.iconst 1, 1) := by decide +kernel
theorem dX10_save_50 : decode cX10_save 50 = .ok (.isub, 1) := by decide +kernel
theorem dX10_save_51 : decode cX10_save 51 = .ok (.putfield 34, 3) := by decide +kernel
theorem dX10_save_54 : decode cX10_save 54 = .ok (.iconst 0, 1) := by decide +kernel
theorem dX10_save_55 : decode cX10_save 55 = .ok (.istore_n 1, 1) := by decide +kernel
theorem dX10_save_56 : decode cX10_save 56 = .ok (.iload_n 1, 1) := by decide +kernel
theorem dX10_save_57 : decode cX10_save 57 = .ok (.sipush 344, 3) := by decide +kernel
theorem dX10_save_60 : decode cX10_save 60 = .ok (.if_icmp .ge 30, 3) := by decide +kernel
theorem dX10_save_63 : decode cX10_save 63 = .ok (.aload_n 0, 1) := by decide +kernel
theorem dX10_save_64 : decode cX10_save 64 = .ok (.getfield 13, 3) := by decide +kernel
theorem dX10_save_67 : decode cX10_save 67 = .ok (.sipush 344, 3) := by decide +kernel
theorem dX10_save_70 : decode cX10_save 70 = .ok (.aload_n 0, 1) := by decide +kernel
theorem dX10_save_71 : decode cX10_save 71 = .ok (.getfield 34, 3) := by decide +kernel
theorem dX10_save_74 : decode cX10_save 74 = .ok (.imul, 1) := by decide +kernel
theorem dX10_save_75 : decode cX10_save 75 = .ok (.iload_n 1, 1) := by decide +kernel
theorem dX10_save_76 : decode cX10_save 76 = .ok (.iadd, 1) := by decide +kernel
theorem dX10_save_77 : decode cX10_save 77 = .ok (.aload_n 0, 1) := by decide +kernel
theorem dX10_save_78 : decode cX10_save 78 = .ok (.getfield 7, 3) := by decide +kernel
theorem dX10_save_81 : decode cX10_save 81 = .ok (.iload_n 1, 1) := by decide +kernel
theorem dX10_save_82 : decode cX10_save 82 = .ok (.laload, 1) := by decide +kernel
theorem dX10_save_83 : decode cX10_save 83 = .ok (.lastore, 1) := by decide +kernel
theorem dX10_save_84 : decode cX10_save 84 = .ok (.iinc 1 1, 3) := by decide +kernel
theorem dX10_save_87 : decode cX10_save 87 = .ok (.goto (-31), 3) := by decide +kernel
theorem dX10_save_90 : decode cX10_save 90 = .ok (.aload_n 0, 1) := by decide +kernel
theorem dX10_save_91 : decode cX10_save 91 = .ok (.dup, 1) := by decide +kernel
theorem dX10_save_92 : decode cX10_save 92 = .ok (.getfield 34, 3) := by decide +kernel
theorem dX10_save_95 : decode cX10_save 95 = .ok (.iconst 1, 1) := by decide +kernel
theorem dX10_save_96 : decode cX10_save 96 = .ok (.iadd, 1) := by decide +kernel
theorem dX10_save_97 : decode cX10_save 97 = .ok (.putfield 34, 3) := by decide +kernel
theorem dX10_save_100 : decode cX10_save 100 = .ok (.return_, 1) := by decide +kernel
theorem dX10_comes_0 : decode cX10_comes 0 = .ok (.aload_n 0, 1) := by decide +kernel
theorem dX10_comes_1 : decode cX10_comes 1 = .ok (.getfield 7, 3) := by decide +kernel
theorem dX10_comes_4 : decode cX10_comes 4 = .ok (.iload_n 1, 1) := by decide +kernel
theorem dX10_comes_5 : decode cX10_comes 5 = .ok (.laload, 1) := by decide +kernel
theorem dX10_comes_6 : decode cX10_comes 6 = .ok (.iload_n 3, 1) := by decide +kernel
theorem dX10_comes_7 : decode cX10_comes 7 = .ok (.i2l, 1) := by decide +kernel
theorem dX10_comes_8 : decode cX10_comes 8 = .ok (.lcmp, 1) := by decide +kernel
theorem dX10_comes_9 : decode cX10_comes 9 = .ok (.ifCond .ne 52, 3) := by decide +kernel
theorem dX10_comes_12 : decode cX10_comes 12 = .ok (.iconst 1, 1) := by decide +kernel
theorem dX10_comes_13 : decode cX10_comes 13 = .ok (.istore 4, 2) := by decide +kernel
theorem dX10_comes_15 : decode cX10_comes 15 = .ok (.iload 4, 2) := by decide +kernel
theorem dX10_comes_17 : decode cX10_comes 17 = .ok (.iload_n 2, 1) := by decide +kernel
theorem dX10_comes_18 : decode cX10_comes 18 = .ok (.iload_n 3, 1) := by decide +kernel
theorem dX10_comes_19 : decode cX10_comes 19 = .ok (.iconst 1, 1) := by decide +kernel
theorem dX10_comes_20 : decode cX10_comes 20 = .ok (.isub, 1) := by decide +kernel
theorem dX10_comes_21 : decode cX10_comes 21 = .ok (.imul, 1) := by decide +kernel
theorem dX10_comes_22 : decode cX10_comes 22 = .ok (.if_icmp .gt 29, 3) := by decide +kernel
theorem dX10_comes_25 : decode cX10_comes 25 = .ok (.aload_n 0, 1) := by decide +kernel
theorem dX10_comes_26 : decode cX10_comes 26 = .ok (.getfield 7, 3) := by decide +kernel
theorem dX10_comes_29 : decode cX10_comes 29 = .ok (.iload_n 1, 1) := by decide +kernel
theorem dX10_comes_30 : decode cX10_comes 30 = .ok (.iload 4, 2) := by decide +kernel
theorem dX10_comes_32 : decode cX10_comes 32 = .ok (.iadd, 1) := by decide +kernel
theorem dX10_comes_33 : decode cX10_comes 33 = .ok (.aload_n 0, 1) := by decide +kernel
theorem dX10_comes_34 : decode cX10_comes 34 = .ok (.getfield 7, 3) := by decide +kernel
theorem dX10_comes_37 : decode cX10_comes 37 = .ok (.iload_n 1, 1) := by decide +kernel
theorem dX10_comes_38 : decode cX10_comes 38 = .ok (.iload 4, 2) := by decide +kernel
theorem dX10_comes_40 : decode cX10_comes 40 = .ok (.iadd, 1) := by decide +kernel
theorem dX10_comes_41 : decode cX10_comes 41 = .ok (.iload_n 2, 1) := by decide +kernel
theorem dX10_comes_42 : decode cX10_comes 42 = .ok (.iadd, 1) := by decide +kernel
theorem dX10_comes_43 : decode cX10_comes 43 = .ok (.laload, 1) := by decide +kernel
theorem dX10_comes_44 : decode cX10_comes 44 = .ok (.lastore, 1) := by decide +kernel
theorem dX10_comes_45 : decode cX10_comes 45 = .ok (.iinc 4 1, 3) := by decide +kernel
theorem dX10_comes_48 : decode cX10_comes 48 = .ok (.goto (-33), 3) := by decide +kernel
theorem dX10_comes_51 : decode cX10_comes 51 = .ok (.aload_n 0, 1) := by decide +kernel
theorem dX10_comes_52 : decode cX10_comes 52 = .ok (.getfield 7, 3) := by decide +kernel
theorem dX10_comes_55 : decode cX10_comes 55 = .ok (.iload_n 1, 1) := by decide +kernel
theorem dX10_comes_56 : decode cX10_comes 56 = .ok (.dup2, 1) := by decide +kernel
theorem dX10_comes_57 : decode cX10_comes 57 = .ok (.laload, 1) := by decide +kernel
theorem dX10_comes_58 : decode cX10_comes 58 = .ok (.lconst 1, 1) := by decide +kernel
theorem dX10_comes_59 : decode cX10_comes 59 = .ok (.lsub, 1) := by decide +kernel
theorem dX10_comes_60 : decode cX10_comes 60 = .ok (.lastore, 1) := by decide +kernel
theorem dX10_comes_61 : decode cX10_comes 61 = .ok (.aload_n 0, 1) := by decide +kernel
theorem dX10_comes_62 : decode cX10_comes 62 = .ok (.getfield 7, 3) := by decide +kernel
theorem dX10_comes_65 : decode cX10_comes 65 = .ok (.iload_n 1, 1) := by decide +kernel
theorem dX10_comes_66 : decode cX10_comes 66 = .ok (.dup2, 1) := by decide +kernel
theorem dX10_comes_67 : decode cX10_comes 67 = .ok (.laload, 1) := by decide +kernel
theorem dX10_comes_68 : decode cX10_comes 68 = .ok (.lconst 1, 1) := by decide +kernel
theorem dX10_comes_69 : decode cX10_comes 69 = .ok (.ladd, 1) := by decide +kernel
theorem dX10_comes_70 : decode cX10_comes 70 = .ok (.lastore, 1) := by decide +kernel
theorem dX10_comes_71 : decode cX10_comes 71 = .ok (.iload_n 1, 1) := by decide +kernel
theorem dX10_comes_72 : decode cX10_comes 72 = .ok (.iconst 1, 1) := by decide +kernel
theorem dX10_comes_73 : decode cX10_comes 73 = .ok (.iadd, 1) := by decide +kernel
theorem dX10_comes_74 : decode cX10_comes 74 = .ok (.iload_n 2, 1) := by decide +kernel
theorem dX10_comes_75 : decode cX10_comes 75 = .ok (.aload_n 0, 1) := by decide +kernel
theorem dX10_comes_76 : decode cX10_comes 76 = .ok (.getfield 7, 3) := by decide +kernel
theorem dX10_comes_79 : decode cX10_comes 79 = .ok (.iload_n 1, 1) := by decide +kernel
theorem dX10_comes_80 : decode cX10_comes 80 = .ok (.laload, 1) := by decide +kernel
theorem dX10_comes_81 : decode cX10_comes 81 = .ok (.l2i, 1) := by decide +kernel
theorem dX10_comes_82 : decode cX10_comes 82 = .ok (.iconst 1, 1) := by decide +kernel
theorem dX10_comes_83 : decode cX10_comes 83 = .ok (.isub, 1) := by decide +kernel
theorem dX10_comes_84 : decode cX10_comes 84 = .ok (.imul, 1) := by decide +kernel
theorem dX10_comes_85 : decode cX10_comes 85 = .ok (.iadd, 1) := by decide +kernel
theorem dX10_comes_86 : decode cX10_comes 86 = .ok (.ireturn, 1) := by decide +kernel
set_option maxRecDepth 20000 in
theorem ggX10_logs_X10_comes : GoodIn wsX10_logs wsX10_comes := goodIn_r _ [6, 1, 7, 8, 9, 10, 11] (by decide +kernel) (by decide +kernel)
set_option maxRecDepth 20000 in
theorem gX10_logs_X10_comes : GoodIn wsX10_logs (wsV RX10 37 RX10 yX10_comes wsX10_comes) := goodIn_app (goodIn_of _ (by decide +kernel)) ggX10_logs_X10_comes
theorem dX10_logs_0 : decode cX10_logs 0 = .ok (.aload_n 0, 1) := by decide +kernel
theorem dX10_logs_1 : decode cX10_logs 1 = .ok (.sipush 253, 3) := by decide +kernel
theorem dX10_logs_4 : decode cX10_logs 4 = .ok (.iconst 3, 1) := by decide +kernel
theorem dX10_logs_5 : decode cX10_logs 5 = .ok (.bipush 30, 2) := by decide +kernel
theorem dX10_logs_7 : decode cX10_logs 7 = .ok (.invokevirtual 37, 3) := by decide +kernel
theorem dX10_logs_10 : decode cX10_logs 10 = .ok (.istore 4, 2) := by decide +kernel
theorem dX10_logs_12 : decode cX10_logs 12 = .ok (.aload_n 0, 1) := by decide +kernel
theorem dX10_logs_13 : decode cX10_logs 13 = .ok (.getfield 7, 3) := by decide +kernel
theorem dX10_logs_16 : decode cX10_logs 16 = .ok (.iload 4, 2) := by decide +kernel
theorem dX10_logs_18 : decode cX10_logs 18 = .ok (.aload_n 0, 1) := by decide +kernel
theorem dX10_logs_19 : decode cX10_logs 19 = .ok (.getfield 7, 3) := by decide +kernel
theorem dX10_logs_22 : decode cX10_logs 22 = .ok (.iconst 0, 1) := by decide +kernel
theorem dX10_logs_23 : decode cX10_logs 23 = .ok (.laload, 1) := by decide +kernel
theorem dX10_logs_24 : decode cX10_logs 24 = .ok (.lastore, 1) := by decide +kernel
theorem dX10_logs_25 : decode cX10_logs 25 = .ok (.aload_n 0, 1) := by decide +kernel
theorem dX10_logs_26 : decode cX10_logs 26 = .ok (.getfield 7, 3) := by decide +kernel
theorem dX10_logs_29 : decode cX10_logs 29 = .ok (.iload 4, 2) := by decide +kernel
theorem dX10_logs_31 : decode cX10_logs 31 = .ok (.iconst 1, 1) := by decide +kernel
theorem dX10_logs_32 : decode cX10_logs 32 = .ok (.iadd, 1) := by decide +kernel
theorem dX10_logs_33 : decode cX10_logs 33 = .ok (.iload_n 1, 1) := by decide +kernel
theorem dX10_logs_34 : decode cX10_logs 34 = .ok (.i2l, 1) := by decide +kernel
theorem dX10_logs_35 : decode cX10_logs 35 = .ok (.lastore, 1) := by decide +kernel
theorem dX10_logs_36 : decode cX10_logs 36 = .ok (.aload_n 0, 1) := by decide +kernel
theorem dX10_logs_37 : decode cX10_logs 37 = .ok (.getfield 7, 3) := by decide +kernel
theorem dX10_logs_40 : decode cX10_logs 40 = .ok (.iload 4, 2) := by decide +kernel
theorem dX10_logs_42 : decode cX10_logs 42 = .ok (.iconst 2, 1) := by decide +kernel
theorem dX10_logs_43 : decode cX10_logs 43 = .ok (.iadd, 1) := by decide +kernel
theorem dX10_logs_44 : decode cX10_logs 44 = .ok (.lload_n 2, 1) := by decide +kernel
theorem dX10_logs_45 : decode cX10_logs 45 = .ok (.lastore, 1) := by decide +kernel
theorem dX10_logs_46 : decode cX10_logs 46 = .ok (.return_, 1) := by decide +kernel
set_option maxRecDepth 20000 in
theorem ggX10_sets_X10_save : GoodIn wsX10_sets wsX10_save := goodIn_r _ [6, 7, 8, 9, 1, 18, 19, 20, 21, 22] (by decide +kernel) (by decide +kernel)
set_option maxRecDepth 20000 in
theorem gX10_sets_X10_save : GoodIn wsX10_sets (wsV RX10 41 RX10 yX10_save wsX10_save) := goodIn_app (goodIn_of _ (by decide +kernel)) ggX10_sets_X10_save
set_option maxRecDepth 20000 in
theorem ggX10_sets_X10_logs : GoodIn wsX10_sets wsX10_logs := goodIn_r _ [13, 1, 14, 15, 16, 5, 17, 18, 19, 20, 21, 22] (by decide +kernel) (by decide +kernel)
set_option maxRecDepth 20000 in
theorem gX10_sets_X10_logs : GoodIn wsX10_sets (wsV RX10 44 RX10 yX10_logs wsX10_logs) := goodIn_app (goodIn_of _ (by decide +kernel)) ggX10_sets_X10_logs
theorem dX10_sets_0 : decode cX10_sets 0 = .ok (.aload_n 0, 1) := by decide +kernel
theorem dX10_sets_1 : decode cX10_sets 1 = .ok (.invokevirtual 41, 3) := by decide +kernel
theorem dX10_sets_4 : decode cX10_sets 4 = .ok (.aload_n 0, 1) := by decide +kernel
theorem dX10_sets_5 : decode cX10_sets 5 = .ok (.getfield 7, 3) := by decide +kernel
theorem dX10_sets_8 : decode cX10_sets 8 = .ok (.iload_n 1, 1) := by decide +kernel
theorem dX10_sets_9 : decode cX10_sets 9 = .ok (.laload, 1) := by decide +kernel
theorem dX10_sets_10 : decode cX10_sets 10 = .ok (.l2i, 1) := by decide +kernel
theorem dX10_sets_11 : decode cX10_sets 11 = .ok (.istore 5, 2) := by decide +kernel
theorem dX10_sets_13 : decode cX10_sets 13 = .ok (.aload_n 0, 1) := by decide +kernel
theorem dX10_sets_14 : decode cX10_sets 14 = .ok (.getfield 7, 3) := by decide +kernel
theorem dX10_sets_17 : decode cX10_sets 17 = .ok (.iload_n 1, 1) := by decide +kernel
theorem dX10_sets_18 : decode cX10_sets 18 = .ok (.lload_n 2, 1) := by decide +kernel
theorem dX10_sets_19 : decode cX10_sets 19 = .ok (.lastore, 1) := by decide +kernel
theorem dX10_sets_20 : decode cX10_sets 20 = .ok (.aload_n 0, 1) := by decide +kernel
theorem dX10_sets_21 : decode cX10_sets 21 = .ok (.iconst 5, 1) := by decide +kernel
theorem dX10_sets_22 : decode cX10_sets 22 = .ok (.iload 4, 2) := by decide +kernel
theorem dX10_sets_24 : decode cX10_sets 24 = .ok (.i2l, 1) := by decide +kernel
theorem dX10_sets_25 : decode cX10_sets 25 = .ok (.invokevirtual 44, 3) := by decide +kernel
theorem dX10_sets_28 : decode cX10_sets 28 = .ok (.iload 5, 2) := by decide +kernel
theorem dX10_sets_30 : decode cX10_sets 30 = .ok (.ireturn, 1) := by decide +kernel
set_option maxRecDepth 20000 in
theorem ggX10_isTransmitter_X10_in : GoodIn wsX10_isTransmitter wsX10_in := goodIn_r _ [5] (by decide +kernel) (by decide +kernel)
set_option maxRecDepth 20000 in
theorem gX10_isTransmitter_X10_in : GoodIn wsX10_isTransmitter (va_wsS RX10 50 yX10_in wsX10_in) := goodIn_app (goodIn_of _ (by decide +kernel)) ggX10_isTransmitter_X10_in
theorem dX10_isTransmitter_0 : decode cX10_isTransmitter 0 = .ok (.iload_n 0, 1) := by decide +kernel
theorem dX10_isTransmitter_1 : decode cX10_isTransmitter 1 = .ok (.i2l, 1) := by decide +kernel
theorem dX10_isTransmitter_2 : decode cX10_isTransmitter 2 = .ok (.lconst 0, 1) := by decide +kernel
theorem dX10_isTransmitter_3 : decode cX10_isTransmitter 3 = .ok (.ldc2_w 48, 3) := by decide +kernel
theorem dX10_isTransmitter_6 : decode cX10_isTransmitter 6 = .ok (.invokestatic 50, 3) := by decide +kernel
theorem dX10_isTransmitter_9 : decode cX10_isTransmitter 9 = .ok (.ireturn, 1) := by decide +kernel
set_option maxRecDepth 20000 in
theorem ggX10_setSpan_X10_isTransmitter : GoodIn wsX10_setSpan wsX10_isTransmitter := goodIn_r _ [6, 7, 8, 9, 5, 10] (by decide +kernel) (by decide +kernel)
set_option maxRecDepth 20000 in
theorem gX10_setSpan_X10_isTransmitter : GoodIn wsX10_setSpan (va_wsS RX10 54 yX10_isTransmitter wsX10_isTransmitter) := goodIn_app (goodIn_of _ (by decide +kernel)) ggX10_setSpan_X10_isTransmitter
set_option maxRecDepth 20000 in
theorem ggX10_setSpan_X10_fails : GoodIn wsX10_setSpan wsX10_fails := goodIn_r _ [14, 15, 35, 36, 37, 38, 39] (by decide +kernel) (by decide +kernel)
set_option maxRecDepth 20000 in
theorem gX10_setSpan_X10_fails : GoodIn wsX10_setSpan (wsV RX10 58 RX10 yX10_fails wsX10_fails) := goodIn_app (goodIn_of _ (by decide +kernel)) ggX10_setSpan_X10_fails
set_option maxRecDepth 20000 in
theorem ggX10_setSpan_X10_in : GoodIn wsX10_setSpan wsX10_in := goodIn_r _ [10] (by decide +kernel) (by decide +kernel)
set_option maxRecDepth 20000 in
theorem gX10_setSpan_X10_in : GoodIn wsX10_setSpan (va_wsS RX10 50 yX10_in wsX10_in) := goodIn_app (goodIn_of _ (by decide +kernel)) ggX10_setSpan_X10_in
set_option maxRecDepth 20000 in
theorem ggX10_setSpan_X10_sets : GoodIn wsX10_setSpan wsX10_sets := goodIn_r _ [19, 20, 21, 22, 23, 5, 24, 15, 25, 26, 27, 28, 29, 30, 31, 32, 33, 34, 35, 36, 37, 38, 39] (by decide +kernel) (by decide +kernel)
set_option maxRecDepth 20000 in
theorem gX10_setSpan_X10_sets : GoodIn wsX10_setSpan (wsV RX10 66 RX10 yX10_sets wsX10_sets) := goodIn_app (goodIn_of _ (by decide +kernel)) ggX10_setSpan_X10_sets
theorem dX10_setSpan_0 : decode cX10_setSpan 0 = .ok (.iload_n 1, 1) := by decide +kernel
theorem dX10_setSpan_1 : decode cX10_setSpan 1 = .ok (.invokestatic 54, 3) := by decide +kernel
theorem dX10_setSpan_4 : decode cX10_setSpan 4 = .ok (.ifCond .ne 9, 3) := by decide +kernel
theorem dX10_setSpan_7 : decode cX10_setSpan 7 = .ok (.aload_n 0, 1) := by decide +kernel
theorem dX10_setSpan_8 : decode cX10_setSpan 8 = .ok (.iconst 1, 1) := by decide +kernel
theorem dX10_setSpan_9 : decode cX10_setSpan 9 = .ok (.invokevirtual 58, 3) := by decide +kernel
theorem dX10_setSpan_12 : decode cX10_setSpan 12 = .ok (.ireturn, 1) := by decide +kernel
theorem dX10_setSpan_13 : decode cX10_setSpan 13 = .ok (.iload_n 2, 1) := by decide +kernel
theorem dX10_setSpan_14 : decode cX10_setSpan 14 = .ok (.i2l, 1) := by decide +kernel
theorem dX10_setSpan_15 : decode cX10_setSpan 15 = .ok (.ldc2_w 62, 3) := by decide +kernel
theorem dX10_setSpan_18 : decode cX10_setSpan 18 = .ok (.ldc2_w 64, 3) := by decide +kernel
theorem dX10_setSpan_21 : decode cX10_setSpan 21 = .ok (.invokestatic 50, 3) := by decide +kernel
theorem dX10_setSpan_24 : decode cX10_setSpan 24 = .ok (.ifCond .eq 17, 3) := by decide +kernel
theorem dX10_setSpan_27 : decode cX10_setSpan 27 = .ok (.aload_n 0, 1) := by decide +kernel
theorem dX10_setSpan_28 : decode cX10_setSpan 28 = .ok (.bipush 6, 2) := by decide +kernel
theorem dX10_setSpan_30 : decode cX10_setSpan 30 = .ok (.iload_n 1, 1) := by decide +kernel
theorem dX10_setSpan_31 : decode cX10_setSpan 31 = .ok (.iadd, 1) := by decide +kernel
theorem dX10_setSpan_32 : decode cX10_setSpan 32 = .ok (.iload_n 2, 1) := by decide +kernel
theorem dX10_setSpan_33 : decode cX10_setSpan 33 = .ok (.i2l, 1) := by decide +kernel
theorem dX10_setSpan_34 : decode cX10_setSpan 34 = .ok (.iconst 0, 1) := by decide +kernel
theorem dX10_setSpan_35 : decode cX10_setSpan 35 = .ok (.invokevirtual 66, 3) := by decide +kernel
theorem dX10_setSpan_38 : decode cX10_setSpan 38 = .ok (.goto 8, 3) := by decide +kernel
theorem dX10_setSpan_41 : decode cX10_setSpan 41 = .ok (.aload_n 0, 1) := by decide +kernel
theorem dX10_setSpan_42 : decode cX10_setSpan 42 = .ok (.iconst 2, 1) := by decide +kernel
theorem dX10_setSpan_43 : decode cX10_setSpan 43 = .ok (.invokevirtual 58, 3) := by decide +kernel
theorem dX10_setSpan_46 : decode cX10_setSpan 46 = .ok (.ireturn, 1) := by decide +kernel
set_option maxRecDepth 20000 in
theorem ggX10_setDamping_X10_isTransmitter : GoodIn wsX10_setDamping wsX10_isTransmitter := goodIn_r _ [5, 6, 7, 8, 4, 9] (by decide +kernel) (by decide +kernel)
set_option maxRecDepth 20000 in
theorem gX10_setDamping_X10_isTransmitter : GoodIn wsX10_setDamping (va_wsS RX10 54 yX10_isTransmitter wsX10_isTransmitter) := goodIn_app (goodIn_of _ (by decide +kernel)) ggX10_setDamping_X10_isTransmitter
set_option maxRecDepth 20000 in
theorem ggX10_setDamping_X10_fails : GoodIn wsX10_setDamping wsX10_fails := goodIn_r _ [13, 14, 34, 35, 36, 37, 38] (by decide +kernel) (by decide +kernel)
set_option maxRecDepth 20000 in
theorem gX10_setDamping_X10_fails : GoodIn wsX10_setDamping (wsV RX10 58 RX10 yX10_fails wsX10_fails) := goodIn_app (goodIn_of _ (by decide +kernel)) ggX10_setDamping_X10_fails
set_option maxRecDepth 20000 in
theorem ggX10_setDamping_X10_in : GoodIn wsX10_setDamping wsX10_in := goodIn_r _ [9] (by decide +kernel) (by decide +kernel)
set_option maxRecDepth 20000 in
theorem gX10_setDamping_X10_in : GoodIn wsX10_setDamping (va_wsS RX10 50 yX10_in wsX10_in) := goodIn_app (goodIn_of _ (by decide +kernel)) ggX10_setDamping_X10_in
set_option maxRecDepth 20000 in
theorem ggX10_setDamping_X10_sets : GoodIn wsX10_setDamping wsX10_sets := goodIn_r _ [18, 19, 20, 21, 22, 4, 23, 14, 24, 25, 26, 27, 28, 29, 30, 31, 32, 33, 34, 35, 36, 37, 38] (by decide +kernel) (by decide +kernel)
set_option maxRecDepth 20000 in
theorem gX10_setDamping_X10_sets : GoodIn wsX10_setDamping (wsV RX10 66 RX10 yX10_sets wsX10_sets) := goodIn_app (goodIn_of _ (by decide +kernel)) ggX10_setDamping_X10_sets
theorem dX10_setDamping_0 : decode cX10_setDamping 0 = .ok (.iload_n 1, 1) := by decide +kernel
theorem dX10_setDamping_1 : decode cX10_setDamping 1 = .ok (.invokestatic 54, 3) := by decide +kernel
theorem dX10_setDamping_4 : decode cX10_setDamping 4 = .ok (.ifCond .ne 9, 3) := by decide +kernel
theorem dX10_setDamping_7 : decode cX10_setDamping 7 = .ok (.aload_n 0, 1) := by decide +kernel
theorem dX10_setDamping_8 : decode cX10_setDamping 8 = .ok (.iconst 1, 1) := by decide +kernel
theorem dX10_setDamping_9 : decode cX10_setDamping 9 = .ok (.invokevirtual 58, 3) := by decide +kernel
theorem dX10_setDamping_12 : decode cX10_setDamping 12 = .ok (.ireturn, 1) := by decide +kernel
theorem dX10_setDamping_13 : decode cX10_setDamping 13 = .ok (.iload_n 2, 1) := by decide +kernel
theorem dX10_setDamping_14 : decode cX10_setDamping 14 = .ok (.i2l, 1) := by decide +kernel
theorem dX10_setDamping_15 : decode cX10_setDamping 15 = .ok (.lconst 0, 1) := by decide +kernel
theorem dX10_setDamping_16 : decode cX10_setDamping 16 = .ok (.ldc2_w 70, 3) := by decide +kernel
theorem dX10_setDamping_19 : decode cX10_setDamping 19 = .ok (.invokestatic 50, 3) := by decide +kernel
theorem dX10_setDamping_22 : decode cX10_setDamping 22 = .ok (.ifCond .eq 17, 3) := by decide +kernel
theorem dX10_setDamping_25 : decode cX10_setDamping 25 = .ok (.aload_n 0, 1) := by decide +kernel
theorem dX10_setDamping_26 : decode cX10_setDamping 26 = .ok (.bipush 10, 2) := by decide +kernel
theorem dX10_setDamping_28 : decode cX10_setDamping 28 = .ok (.iload_n 1, 1) := by decide +kernel
theorem dX10_setDamping_29 : decode cX10_setDamping 29 = .ok (.iadd, 1) := by decide +kernel
theorem dX10_setDamping_30 : decode cX10_setDamping 30 = .ok (.iload_n 2, 1) := by decide +kernel
theorem dX10_setDamping_31 : decode cX10_setDamping 31 = .ok (.i2l, 1) := by decide +kernel
theorem dX10_setDamping_32 : decode cX10_setDamping 32 = .ok (.iconst 1, 1) := by decide +kernel
theorem dX10_setDamping_33 : decode cX10_setDamping 33 = .ok (.invokevirtual 66, 3) := by decide +kernel
theorem dX10_setDamping_36 : decode cX10_setDamping 36 = .ok (.goto 8, 3) := by decide +kernel
theorem dX10_setDamping_39 : decode cX10_setDamping 39 = .ok (.aload_n 0, 1) := by decide +kernel
theorem dX10_setDamping_40 : decode cX10_setDamping 40 = .ok (.iconst 2, 1) := by decide +kernel
theorem dX10_setDamping_41 : decode cX10_setDamping 41 = .ok (.invokevirtual 58, 3) := by decide +kernel
theorem dX10_setDamping_44 : decode cX10_setDamping 44 = .ok (.ireturn, 1) := by decide +kernel
set_option maxRecDepth 20000 in
theorem ggX10_setMode_X10_in : GoodIn wsX10_setMode wsX10_in := goodIn_r _ [4] (by decide +kernel) (by decide +kernel)
set_option maxRecDepth 20000 in
theorem gX10_setMode_X10_in : GoodIn wsX10_setMode (va_wsS RX10 50 yX10_in wsX10_in) := goodIn_app (goodIn_of _ (by decide +kernel)) ggX10_setMode_X10_in
set_option maxRecDepth 20000 in
theorem ggX10_setMode_X10_sets : GoodIn wsX10_setMode wsX10_sets := goodIn_r _ [8, 9, 10, 11, 12, 3, 13, 14, 15, 16, 17, 18, 19, 20, 21, 22, 23, 24, 29, 30, 31, 32, 33] (by decide +kernel) (by decide +kernel)
set_option maxRecDepth 20000 in
theorem gX10_setMode_X10_sets : GoodIn wsX10_setMode (wsV RX10 66 RX10 yX10_sets wsX10_sets) := goodIn_app (goodIn_of _ (by decide +kernel)) ggX10_setMode_X10_sets
set_option maxRecDepth 20000 in
theorem ggX10_setMode_X10_fails : GoodIn wsX10_setMode wsX10_fails := goodIn_r _ [28, 14, 29, 30, 31, 32, 33] (by decide +kernel) (by decide +kernel)
set_option maxRecDepth 20000 in
theorem gX10_setMode_X10_fails : GoodIn wsX10_setMode (wsV RX10 58 RX10 yX10_fails wsX10_fails) := goodIn_app (goodIn_of _ (by decide +kernel)) ggX10_setMode_X10_fails
theorem dX10_setMode_0 : decode cX10_setMode 0 = .ok (.iload_n 1, 1) := by decide +kernel
theorem dX10_setMode_1 : decode cX10_setMode 1 = .ok (.i2l, 1) := by decide +kernel
theorem dX10_setMode_2 : decode cX10_setMode 2 = .ok (.lconst 0, 1) := by decide +kernel
theorem dX10_setMode_3 : decode cX10_setMode 3 = .ok (.lconst 1, 1) := by decide +kernel
theorem dX10_setMode_4 : decode cX10_setMode 4 = .ok (.invokestatic 50, 3) := by decide +kernel
theorem dX10_setMode_7 : decode cX10_setMode 7 = .ok (.ifCond .eq 14, 3) := by decide +kernel
theorem dX10_setMode_10 : decode cX10_setMode 10 = .ok (.aload_n 0, 1) := by decide +kernel
theorem dX10_setMode_11 : decode cX10_setMode 11 = .ok (.iconst 1, 1) := by decide +kernel
theorem dX10_setMode_12 : decode cX10_setMode 12 = .ok (.iload_n 1, 1) := by decide +kernel
theorem dX10_setMode_13 : decode cX10_setMode 13 = .ok (.i2l, 1) := by decide +kernel
theorem dX10_setMode_14 : decode cX10_setMode 14 = .ok (.iconst 2, 1) := by decide +kernel
theorem dX10_setMode_15 : decode cX10_setMode 15 = .ok (.invokevirtual 66, 3) := by decide +kernel
theorem dX10_setMode_18 : decode cX10_setMode 18 = .ok (.goto 8, 3) := by decide +kernel
theorem dX10_setMode_21 : decode cX10_setMode 21 = .ok (.aload_n 0, 1) := by decide +kernel
theorem dX10_setMode_22 : decode cX10_setMode 22 = .ok (.iconst 1, 1) := by decide +kernel
theorem dX10_setMode_23 : decode cX10_setMode 23 = .ok (.invokevirtual 58, 3) := by decide +kernel
theorem dX10_setMode_26 : decode cX10_setMode 26 = .ok (.ireturn, 1) := by decide +kernel
set_option maxRecDepth 20000 in
theorem ggX10_setDensity_X10_in : GoodIn wsX10_setDensity wsX10_in := goodIn_r _ [6] (by decide +kernel) (by decide +kernel)
set_option maxRecDepth 20000 in
theorem gX10_setDensity_X10_in : GoodIn wsX10_setDensity (va_wsS RX10 50 yX10_in wsX10_in) := goodIn_app (goodIn_of _ (by decide +kernel)) ggX10_setDensity_X10_in
set_option maxRecDepth 20000 in
theorem ggX10_setDensity_X10_fails : GoodIn wsX10_setDensity wsX10_fails := goodIn_r _ [10, 11, 31, 32, 33, 34, 35] (by decide +kernel) (by decide +kernel)
set_option maxRecDepth 20000 in
theorem gX10_setDensity_X10_fails : GoodIn wsX10_setDensity (wsV RX10 58 RX10 yX10_fails wsX10_fails) := goodIn_app (goodIn_of _ (by decide +kernel)) ggX10_setDensity_X10_fails
set_option maxRecDepth 20000 in
theorem ggX10_setDensity_X10_sets : GoodIn wsX10_setDensity wsX10_sets := goodIn_r _ [15, 16, 17, 18, 19, 5, 20, 11, 21, 22, 23, 24, 25, 26, 27, 28, 29, 30, 31, 32, 33, 34, 35] (by decide +kernel) (by decide +kernel)
set_option maxRecDepth 20000 in
theorem gX10_setDensity_X10_sets : GoodIn wsX10_setDensity (wsV RX10 66 RX10 yX10_sets wsX10_sets) := goodIn_app (goodIn_of _ (by decide +kernel)) ggX10_setDensity_X10_sets
theorem dX10_setDensity_0 : decode cX10_setDensity 0 = .ok (.iload_n 1, 1) := by decide +kernel
theorem dX10_setDensity_1 : decode cX10_setDensity 1 = .ok (.i2l, 1) := by decide +kernel
theorem dX10_setDensity_2 : decode cX10_setDensity 2 = .ok (.lconst 0, 1) := by decide +kernel
theorem dX10_setDensity_3 : decode cX10_setDensity 3 = .ok (.ldc2_w 72, 3) := by decide +kernel
theorem dX10_setDensity_6 : decode cX10_setDensity 6 = .ok (.invokestatic 50, 3) := by decide +kernel
theorem dX10_setDensity_9 : decode cX10_setDensity 9 = .ok (.ifCond .ne 9, 3) := by decide +kernel
theorem dX10_setDensity_12 : decode cX10_setDensity 12 = .ok (.aload_n 0, 1) := by decide +kernel
theorem dX10_setDensity_13 : decode cX10_setDensity 13 = .ok (.iconst 1, 1) := by decide +kernel
theorem dX10_setDensity_14 : decode cX10_setDensity 14 = .ok (.invokevirtual 58, 3) := by decide +kernel
theorem dX10_setDensity_17 : decode cX10_setDensity 17 = .ok (.ireturn, 1) := by decide +kernel
theorem dX10_setDensity_18 : decode cX10_setDensity 18 = .ok (.iload_n 2, 1) := by decide +kernel
theorem dX10_setDensity_19 : decode cX10_setDensity 19 = .ok (.i2l, 1) := by decide +kernel
theorem dX10_setDensity_20 : decode cX10_setDensity 20 = .ok (.lconst 1, 1) := by decide +kernel
theorem dX10_setDensity_21 : decode cX10_setDensity 21 = .ok (.ldc2_w 74, 3) := by decide +kernel
theorem dX10_setDensity_24 : decode cX10_setDensity 24 = .ok (.invokestatic 50, 3) := by decide +kernel
theorem dX10_setDensity_27 : decode cX10_setDensity 27 = .ok (.ifCond .eq 17, 3) := by decide +kernel
theorem dX10_setDensity_30 : decode cX10_setDensity 30 = .ok (.aload_n 0, 1) := by decide +kernel
theorem dX10_setDensity_31 : decode cX10_setDensity 31 = .ok (.bipush 26, 2) := by decide +kernel
theorem dX10_setDensity_33 : decode cX10_setDensity 33 = .ok (.iload_n 1, 1) := by decide +kernel
theorem dX10_setDensity_34 : decode cX10_setDensity 34 = .ok (.iadd, 1) := by decide +kernel
theorem dX10_setDensity_35 : decode cX10_setDensity 35 = .ok (.iload_n 2, 1) := by decide +kernel
theorem dX10_setDensity_36 : decode cX10_setDensity 36 = .ok (.i2l, 1) := by decide +kernel
theorem dX10_setDensity_37 : decode cX10_setDensity 37 = .ok (.iconst 3, 1) := by decide +kernel
theorem dX10_setDensity_38 : decode cX10_setDensity 38 = .ok (.invokevirtual 66, 3) := by decide +kernel
theorem dX10_setDensity_41 : decode cX10_setDensity 41 = .ok (.goto 8, 3) := by decide +kernel
theorem dX10_setDensity_44 : decode cX10_setDensity 44 = .ok (.aload_n 0, 1) := by decide +kernel
theorem dX10_setDensity_45 : decode cX10_setDensity 45 = .ok (.iconst 2, 1) := by decide +kernel
theorem dX10_setDensity_46 : decode cX10_setDensity 46 = .ok (.invokevirtual 58, 3) := by decide +kernel
theorem dX10_setDensity_49 : decode cX10_setDensity 49 = .ok (.ireturn, 1) := by decide +kernel
set_option maxRecDepth 20000 in
theorem ggX10_setFactor_X10_in : GoodIn wsX10_setFactor wsX10_in := goodIn_r _ [7] (by decide +kernel) (by decide +kernel)
set_option maxRecDepth 20000 in
theorem gX10_setFactor_X10_in : GoodIn wsX10_setFactor (va_wsS RX10 50 yX10_in wsX10_in) := goodIn_app (goodIn_of _ (by decide +kernel)) ggX10_setFactor_X10_in
set_option maxRecDepth 20000 in
theorem ggX10_setFactor_X10_fails : GoodIn wsX10_setFactor wsX10_fails := goodIn_r _ [11, 12, 32, 33, 34, 35, 36] (by decide +kernel) (by decide +kernel)
set_option maxRecDepth 20000 in
theorem gX10_setFactor_X10_fails : GoodIn wsX10_setFactor (wsV RX10 58 RX10 yX10_fails wsX10_fails) := goodIn_app (goodIn_of _ (by decide +kernel)) ggX10_setFactor_X10_fails
set_option maxRecDepth 20000 in
theorem ggX10_setFactor_X10_sets : GoodIn wsX10_setFactor wsX10_sets := goodIn_r _ [16, 17, 18, 19, 20, 6, 21, 12, 22, 23, 24, 25, 26, 27, 28, 29, 30, 31, 32, 33, 34, 35, 36] (by decide +kernel) (by decide +kernel)
set_option maxRecDepth 20000 in
theorem gX10_setFactor_X10_sets : GoodIn wsX10_setFactor (wsV RX10 66 RX10 yX10_sets wsX10_sets) := goodIn_app (goodIn_of _ (by decide +kernel)) ggX10_setFactor_X10_sets
theorem dX10_setFactor_0 : decode cX10_setFactor 0 = .ok (.iload_n 1, 1) := by decide +kernel
theorem dX10_setFactor_1 : decode cX10_setFactor 1 = .ok (.i2l, 1) := by decide +kernel
theorem dX10_setFactor_2 : decode cX10_setFactor 2 = .ok (.lconst 0, 1) := by decide +kernel
theorem dX10_setFactor_3 : decode cX10_setFactor 3 = .ok (.ldc2_w 76, 3) := by decide +kernel
theorem dX10_setFactor_6 : decode cX10_setFactor 6 = .ok (.invokestatic 50, 3) := by decide +kernel
theorem dX10_setFactor_9 : decode cX10_setFactor 9 = .ok (.ifCond .ne 9, 3) := by decide +kernel
theorem dX10_setFactor_12 : decode cX10_setFactor 12 = .ok (.aload_n 0, 1) := by decide +kernel
theorem dX10_setFactor_13 : decode cX10_setFactor 13 = .ok (.iconst 1, 1) := by decide +kernel
theorem dX10_setFactor_14 : decode cX10_setFactor 14 = .ok (.invokevirtual 58, 3) := by decide +kernel
theorem dX10_setFactor_17 : decode cX10_setFactor 17 = .ok (.ireturn, 1) := by decide +kernel
theorem dX10_setFactor_18 : decode cX10_setFactor 18 = .ok (.iload_n 2, 1) := by decide +kernel
theorem dX10_setFactor_19 : decode cX10_setFactor 19 = .ok (.i2l, 1) := by decide +kernel
theorem dX10_setFactor_20 : decode cX10_setFactor 20 = .ok (.ldc2_w 78, 3) := by decide +kernel
theorem dX10_setFactor_23 : decode cX10_setFactor 23 = .ok (.ldc2_w 80, 3) := by decide +kernel
theorem dX10_setFactor_26 : decode cX10_setFactor 26 = .ok (.invokestatic 50, 3) := by decide +kernel
theorem dX10_setFactor_29 : decode cX10_setFactor 29 = .ok (.ifCond .eq 17, 3) := by decide +kernel
theorem dX10_setFactor_32 : decode cX10_setFactor 32 = .ok (.aload_n 0, 1) := by decide +kernel
theorem dX10_setFactor_33 : decode cX10_setFactor 33 = .ok (.bipush 32, 2) := by decide +kernel
theorem dX10_setFactor_35 : decode cX10_setFactor 35 = .ok (.iload_n 1, 1) := by decide +kernel
theorem dX10_setFactor_36 : decode cX10_setFactor 36 = .ok (.iadd, 1) := by decide +kernel
theorem dX10_setFactor_37 : decode cX10_setFactor 37 = .ok (.iload_n 2, 1) := by decide +kernel
theorem dX10_setFactor_38 : decode cX10_setFactor 38 = .ok (.i2l, 1) := by decide +kernel
theorem dX10_setFactor_39 : decode cX10_setFactor 39 = .ok (.iconst 4, 1) := by decide +kernel
theorem dX10_setFactor_40 : decode cX10_setFactor 40 = .ok (.invokevirtual 66, 3) := by decide +kernel
theorem dX10_setFactor_43 : decode cX10_setFactor 43 = .ok (.goto 8, 3) := by decide +kernel
theorem dX10_setFactor_46 : decode cX10_setFactor 46 = .ok (.aload_n 0, 1) := by decide +kernel
theorem dX10_setFactor_47 : decode cX10_setFactor 47 = .ok (.iconst 2, 1) := by decide +kernel
theorem dX10_setFactor_48 : decode cX10_setFactor 48 = .ok (.invokevirtual 58, 3) := by decide +kernel
theorem dX10_setFactor_51 : decode cX10_setFactor 51 = .ok (.ireturn, 1) := by decide +kernel
set_option maxRecDepth 20000 in
theorem ggX10_setMeter_X10_in : GoodIn wsX10_setMeter wsX10_in := goodIn_r _ [5] (by decide +kernel) (by decide +kernel)
set_option maxRecDepth 20000 in
theorem gX10_setMeter_X10_in : GoodIn wsX10_setMeter (va_wsS RX10 50 yX10_in wsX10_in) := goodIn_app (goodIn_of _ (by decide +kernel)) ggX10_setMeter_X10_in
set_option maxRecDepth 20000 in
theorem ggX10_setMeter_X10_sets : GoodIn wsX10_setMeter wsX10_sets := goodIn_r _ [9, 10, 11, 12, 13, 4, 14, 15, 16, 17, 18, 19, 20, 21, 22, 23, 24, 25, 30, 31, 32, 33, 34] (by decide +kernel) (by decide +kernel)
set_option maxRecDepth 20000 in
theorem gX10_setMeter_X10_sets : GoodIn wsX10_setMeter (wsV RX10 66 RX10 yX10_sets wsX10_sets) := goodIn_app (goodIn_of _ (by decide +kernel)) ggX10_setMeter_X10_sets
set_option maxRecDepth 20000 in
theorem ggX10_setMeter_X10_fails : GoodIn wsX10_setMeter wsX10_fails := goodIn_r _ [29, 15, 30, 31, 32, 33, 34] (by decide +kernel) (by decide +kernel)
set_option maxRecDepth 20000 in
theorem gX10_setMeter_X10_fails : GoodIn wsX10_setMeter (wsV RX10 58 RX10 yX10_fails wsX10_fails) := goodIn_app (goodIn_of _ (by decide +kernel)) ggX10_setMeter_X10_fails
theorem dX10_setMeter_0 : decode cX10_setMeter 0 = .ok (.iload_n 1, 1) := by decide +kernel
theorem dX10_setMeter_1 : decode cX10_setMeter 1 = .ok (.i2l, 1) := by decide +kernel
theorem dX10_setMeter_2 : decode cX10_setMeter 2 = .ok (.lconst 1, 1) := by decide +kernel
theorem dX10_setMeter_3 : decode cX10_setMeter 3 = .ok (.ldc2_w 82, 3) := by decide +kernel
theorem dX10_setMeter_6 : decode cX10_setMeter 6 = .ok (.invokestatic 50, 3) := by decide +kernel
theorem dX10_setMeter_9 : decode cX10_setMeter 9 = .ok (.ifCond .eq 14, 3) := by decide +kernel
theorem dX10_setMeter_12 : decode cX10_setMeter 12 = .ok (.aload_n 0, 1) := by decide +kernel
theorem dX10_setMeter_13 : decode cX10_setMeter 13 = .ok (.iconst 2, 1) := by decide +kernel
theorem dX10_setMeter_14 : decode cX10_setMeter 14 = .ok (.iload_n 1, 1) := by decide +kernel
theorem dX10_setMeter_15 : decode cX10_setMeter 15 = .ok (.i2l, 1) := by decide +kernel
theorem dX10_setMeter_16 : decode cX10_setMeter 16 = .ok (.iconst 5, 1) := by decide +kernel
theorem dX10_setMeter_17 : decode cX10_setMeter 17 = .ok (.invokevirtual 66, 3) := by decide +kernel
theorem dX10_setMeter_20 : decode cX10_setMeter 20 = .ok (.goto 8, 3) := by decide +kernel
theorem dX10_setMeter_23 : decode cX10_setMeter 23 = .ok (.aload_n 0, 1) := by decide +kernel
theorem dX10_setMeter_24 : decode cX10_setMeter 24 = .ok (.iconst 1, 1) := by decide +kernel
theorem dX10_setMeter_25 : decode cX10_setMeter 25 = .ok (.invokevirtual 58, 3) := by decide +kernel
theorem dX10_setMeter_28 : decode cX10_setMeter 28 = .ok (.ireturn, 1) := by decide +kernel
set_option maxRecDepth 20000 in
theorem ggX10_setCutoff_X10_in : GoodIn wsX10_setCutoff wsX10_in := goodIn_r _ [6] (by decide +kernel) (by decide +kernel)
set_option maxRecDepth 20000 in
theorem gX10_setCutoff_X10_in : GoodIn wsX10_setCutoff (va_wsS RX10 50 yX10_in wsX10_in) := goodIn_app (goodIn_of _ (by decide +kernel)) ggX10_setCutoff_X10_in
set_option maxRecDepth 20000 in
theorem ggX10_setCutoff_X10_fails : GoodIn wsX10_setCutoff wsX10_fails := goodIn_r _ [10, 11, 30, 31, 32, 33, 34] (by decide +kernel) (by decide +kernel)
set_option maxRecDepth 20000 in
theorem gX10_setCutoff_X10_fails : GoodIn wsX10_setCutoff (wsV RX10 58 RX10 yX10_fails wsX10_fails) := goodIn_app (goodIn_of _ (by decide +kernel)) ggX10_setCutoff_X10_fails
set_option maxRecDepth 20000 in
theorem ggX10_setCutoff_X10_sets : GoodIn wsX10_setCutoff wsX10_sets := goodIn_r _ [15, 2, 16, 17, 18, 5, 19, 11, 20, 21, 22, 23, 24, 25, 26, 27, 28, 29, 30, 31, 32, 33, 34] (by decide +kernel) (by decide +kernel)
set_option maxRecDepth 20000 in
theorem gX10_setCutoff_X10_sets : GoodIn wsX10_setCutoff (wsV RX10 66 RX10 yX10_sets wsX10_sets) := goodIn_app (goodIn_of _ (by decide +kernel)) ggX10_setCutoff_X10_sets
theorem dX10_setCutoff_0 : decode cX10_setCutoff 0 = .ok (.iload_n 1, 1) := by decide +kernel
theorem dX10_setCutoff_1 : decode cX10_setCutoff 1 = .ok (.i2l, 1) := by decide +kernel
theorem dX10_setCutoff_2 : decode cX10_setCutoff 2 = .ok (.lconst 0, 1) := by decide +kernel
theorem dX10_setCutoff_3 : decode cX10_setCutoff 3 = .ok (.iload_n 2, 1) := by decide +kernel
theorem dX10_setCutoff_4 : decode cX10_setCutoff 4 = .ok (.i2l, 1) := by decide +kernel
theorem dX10_setCutoff_5 : decode cX10_setCutoff 5 = .ok (.invokestatic 50, 3) := by decide +kernel
theorem dX10_setCutoff_8 : decode cX10_setCutoff 8 = .ok (.ifCond .eq 16, 3) := by decide +kernel
theorem dX10_setCutoff_11 : decode cX10_setCutoff 11 = .ok (.iload_n 2, 1) := by decide +kernel
theorem dX10_setCutoff_12 : decode cX10_setCutoff 12 = .ok (.i2l, 1) := by decide +kernel
theorem dX10_setCutoff_13 : decode cX10_setCutoff 13 = .ok (.iload_n 1, 1) := by decide +kernel
theorem dX10_setCutoff_14 : decode cX10_setCutoff 14 = .ok (.i2l, 1) := by decide +kernel
theorem dX10_setCutoff_15 : decode cX10_setCutoff 15 = .ok (.ldc2_w 82, 3) := by decide +kernel
theorem dX10_setCutoff_18 : decode cX10_setCutoff 18 = .ok (.invokestatic 50, 3) := by decide +kernel
theorem dX10_setCutoff_21 : decode cX10_setCutoff 21 = .ok (.ifCond .ne 9, 3) := by decide +kernel
theorem dX10_setCutoff_24 : decode cX10_setCutoff 24 = .ok (.aload_n 0, 1) := by decide +kernel
theorem dX10_setCutoff_25 : decode cX10_setCutoff 25 = .ok (.iconst 1, 1) := by decide +kernel
theorem dX10_setCutoff_26 : decode cX10_setCutoff 26 = .ok (.invokevirtual 58, 3) := by decide +kernel
theorem dX10_setCutoff_29 : decode cX10_setCutoff 29 = .ok (.ireturn, 1) := by decide +kernel
theorem dX10_setCutoff_30 : decode cX10_setCutoff 30 = .ok (.aload_n 0, 1) := by decide +kernel
theorem dX10_setCutoff_31 : decode cX10_setCutoff 31 = .ok (.iconst 3, 1) := by decide +kernel
theorem dX10_setCutoff_32 : decode cX10_setCutoff 32 = .ok (.iload_n 1, 1) := by decide +kernel
theorem dX10_setCutoff_33 : decode cX10_setCutoff 33 = .ok (.i2l, 1) := by decide +kernel
theorem dX10_setCutoff_34 : decode cX10_setCutoff 34 = .ok (.bipush 6, 2) := by decide +kernel
theorem dX10_setCutoff_36 : decode cX10_setCutoff 36 = .ok (.invokevirtual 66, 3) := by decide +kernel
theorem dX10_setCutoff_39 : decode cX10_setCutoff 39 = .ok (.istore_n 3, 1) := by decide +kernel
theorem dX10_setCutoff_40 : decode cX10_setCutoff 40 = .ok (.aload_n 0, 1) := by decide +kernel
theorem dX10_setCutoff_41 : decode cX10_setCutoff 41 = .ok (.getfield 7, 3) := by decide +kernel
theorem dX10_setCutoff_44 : decode cX10_setCutoff 44 = .ok (.iconst 4, 1) := by decide +kernel
theorem dX10_setCutoff_45 : decode cX10_setCutoff 45 = .ok (.iload_n 2, 1) := by decide +kernel
theorem dX10_setCutoff_46 : decode cX10_setCutoff 46 = .ok (.i2l, 1) := by decide +kernel
theorem dX10_setCutoff_47 : decode cX10_setCutoff 47 = .ok (.lastore, 1) := by decide +kernel
theorem dX10_setCutoff_48 : decode cX10_setCutoff 48 = .ok (.iload_n 3, 1) := by decide +kernel
theorem dX10_setCutoff_49 : decode cX10_setCutoff 49 = .ok (.ireturn, 1) := by decide +kernel
set_option maxRecDepth 20000 in
theorem ggX10_setContractHour_X10_in : GoodIn wsX10_setContractHour wsX10_in := goodIn_r _ [5] (by decide +kernel) (by decide +kernel)
set_option maxRecDepth 20000 in
theorem gX10_setContractHour_X10_in : GoodIn wsX10_setContractHour (va_wsS RX10 50 yX10_in wsX10_in) := goodIn_app (goodIn_of _ (by decide +kernel)) ggX10_setContractHour_X10_in
set_option maxRecDepth 20000 in
theorem ggX10_setContractHour_X10_sets : GoodIn wsX10_setContractHour wsX10_sets := goodIn_r _ [9, 10, 11, 12, 13, 4, 14, 15, 16, 17, 18, 19, 20, 21, 22, 23, 24, 25, 30, 31, 32, 33, 34] (by decide +kernel) (by decide +kernel)
set_option maxRecDepth 20000 in
theorem gX10_setContractHour_X10_sets : GoodIn wsX10_setContractHour (wsV RX10 66 RX10 yX10_sets wsX10_sets) := goodIn_app (goodIn_of _ (by decide +kernel)) ggX10_setContractHour_X10_sets
set_option maxRecDepth 20000 in
theorem ggX10_setContractHour_X10_fails : GoodIn wsX10_setContractHour wsX10_fails := goodIn_r _ [29, 15, 30, 31, 32, 33, 34] (by decide +kernel) (by decide +kernel)
set_option maxRecDepth 20000 in
theorem gX10_setContractHour_X10_fails : GoodIn wsX10_setContractHour (wsV RX10 58 RX10 yX10_fails wsX10_fails) := goodIn_app (goodIn_of _ (by decide +kernel)) ggX10_setContractHour_X10_fails
theorem dX10_setContractHour_0 : decode cX10_setContractHour 0 = .ok (.iload_n 1, 1) := by decide +kernel
theorem dX10_setContractHour_1 : decode cX10_setContractHour 1 = .ok (.i2l, 1) := by decide +kernel
theorem dX10_setContractHour_2 : decode cX10_setContractHour 2 = .ok (.lconst 0, 1) := by decide +kernel
theorem dX10_setContractHour_3 : decode cX10_setContractHour 3 = .ok (.ldc2_w 84, 3) := by decide +kernel
theorem dX10_setContractHour_6 : decode cX10_setContractHour 6 = .ok (.invokestatic 50, 3) := by decide +kernel
theorem dX10_setContractHour_9 : decode cX10_setContractHour 9 = .ok (.ifCond .eq 15, 3) := by decide +kernel
theorem dX10_setContractHour_12 : decode cX10_setContractHour 12 = .ok (.aload_n 0, 1) := by decide +kernel
theorem dX10_setContractHour_13 : decode cX10_setContractHour 13 = .ok (.iconst 5, 1) := by decide +kernel
theorem dX10_setContractHour_14 : decode cX10_setContractHour 14 = .ok (.iload_n 1, 1) := by decide +kernel
theorem dX10_setContractHour_15 : decode cX10_setContractHour 15 = .ok (.i2l, 1) := by decide +kernel
theorem dX10_setContractHour_16 : decode cX10_setContractHour 16 = .ok (.bipush 7, 2) := by decide +kernel
theorem dX10_setContractHour_18 : decode cX10_setContractHour 18 = .ok (.invokevirtual 66, 3) := by decide +kernel
theorem dX10_setContractHour_21 : decode cX10_setContractHour 21 = .ok (.goto 8, 3) := by decide +kernel
theorem dX10_setContractHour_24 : decode cX10_setContractHour 24 = .ok (.aload_n 0, 1) := by decide +kernel
theorem dX10_setContractHour_25 : decode cX10_setContractHour 25 = .ok (.iconst 1, 1) := by decide +kernel
theorem dX10_setContractHour_26 : decode cX10_setContractHour 26 = .ok (.invokevirtual 58, 3) := by decide +kernel
theorem dX10_setContractHour_29 : decode cX10_setContractHour 29 = .ok (.ireturn, 1) := by decide +kernel
set_option maxRecDepth 20000 in
theorem ggX10_setRaw_X10_isTransmitter : GoodIn wsX10_setRaw wsX10_isTransmitter := goodIn_r _ [6, 7, 8, 9, 5, 10] (by decide +kernel) (by decide +kernel)
set_option maxRecDepth 20000 in
theorem gX10_setRaw_X10_isTransmitter : GoodIn wsX10_setRaw (va_wsS RX10 54 yX10_isTransmitter wsX10_isTransmitter) := goodIn_app (goodIn_of _ (by decide +kernel)) ggX10_setRaw_X10_isTransmitter
set_option maxRecDepth 20000 in
theorem ggX10_setRaw_X10_fails : GoodIn wsX10_setRaw wsX10_fails := goodIn_r _ [14, 15, 32, 33, 34, 35, 36] (by decide +kernel) (by decide +kernel)
set_option maxRecDepth 20000 in
theorem gX10_setRaw_X10_fails : GoodIn wsX10_setRaw (wsV RX10 58 RX10 yX10_fails wsX10_fails) := goodIn_app (goodIn_of _ (by decide +kernel)) ggX10_setRaw_X10_fails
set_option maxRecDepth 20000 in
theorem ggX10_setRaw_X10_in : GoodIn wsX10_setRaw wsX10_in := goodIn_r _ [10] (by decide +kernel) (by decide +kernel)
set_option maxRecDepth 20000 in
theorem gX10_setRaw_X10_in : GoodIn wsX10_setRaw (va_wsS RX10 50 yX10_in wsX10_in) := goodIn_app (goodIn_of _ (by decide +kernel)) ggX10_setRaw_X10_in
set_option maxRecDepth 20000 in
theorem ggX10_setRaw_X10_save : GoodIn wsX10_setRaw wsX10_save := goodIn_r _ [19, 15, 20, 21, 2, 32, 33, 34, 35, 36] (by decide +kernel) (by decide +kernel)
set_option maxRecDepth 20000 in
theorem gX10_setRaw_X10_save : GoodIn wsX10_setRaw (wsV RX10 41 RX10 yX10_save wsX10_save) := goodIn_app (goodIn_of _ (by decide +kernel)) ggX10_setRaw_X10_save
set_option maxRecDepth 20000 in
theorem ggX10_setRaw_X10_readingOf : GoodIn wsX10_setRaw wsX10_readingOf := goodIn_r _ [25, 26, 2, 27, 28, 29, 30, 5, 31, 32, 33, 34, 35, 36] (by decide +kernel) (by decide +kernel)
set_option maxRecDepth 20000 in
theorem gX10_setRaw_X10_readingOf : GoodIn wsX10_setRaw (wsV RX10 88 RX10 yX10_readingOf wsX10_readingOf) := goodIn_app (goodIn_of _ (by decide +kernel)) ggX10_setRaw_X10_readingOf
theorem dX10_setRaw_0 : decode cX10_setRaw 0 = .ok (.iload_n 1, 1) := by decide +kernel
theorem dX10_setRaw_1 : decode cX10_setRaw 1 = .ok (.invokestatic 54, 3) := by decide +kernel
theorem dX10_setRaw_4 : decode cX10_setRaw 4 = .ok (.ifCond .ne 9, 3) := by decide +kernel
theorem dX10_setRaw_7 : decode cX10_setRaw 7 = .ok (.aload_n 0, 1) := by decide +kernel
theorem dX10_setRaw_8 : decode cX10_setRaw 8 = .ok (.iconst 1, 1) := by decide +kernel
theorem dX10_setRaw_9 : decode cX10_setRaw 9 = .ok (.invokevirtual 58, 3) := by decide +kernel
theorem dX10_setRaw_12 : decode cX10_setRaw 12 = .ok (.ireturn, 1) := by decide +kernel
theorem dX10_setRaw_13 : decode cX10_setRaw 13 = .ok (.iload_n 2, 1) := by decide +kernel
theorem dX10_setRaw_14 : decode cX10_setRaw 14 = .ok (.i2l, 1) := by decide +kernel
theorem dX10_setRaw_15 : decode cX10_setRaw 15 = .ok (.lconst 0, 1) := by decide +kernel
theorem dX10_setRaw_16 : decode cX10_setRaw 16 = .ok (.ldc2_w 86, 3) := by decide +kernel
theorem dX10_setRaw_19 : decode cX10_setRaw 19 = .ok (.invokestatic 50, 3) := by decide +kernel
theorem dX10_setRaw_22 : decode cX10_setRaw 22 = .ok (.ifCond .ne 9, 3) := by decide +kernel
theorem dX10_setRaw_25 : decode cX10_setRaw 25 = .ok (.aload_n 0, 1) := by decide +kernel
theorem dX10_setRaw_26 : decode cX10_setRaw 26 = .ok (.iconst 2, 1) := by decide +kernel
theorem dX10_setRaw_27 : decode cX10_setRaw 27 = .ok (.invokevirtual 58, 3) := by decide +kernel
theorem dX10_setRaw_30 : decode cX10_setRaw 30 = .ok (.ireturn, 1) := by decide +kernel
theorem dX10_setRaw_31 : decode cX10_setRaw 31 = .ok (.aload_n 0, 1) := by decide +kernel
theorem dX10_setRaw_32 : decode cX10_setRaw 32 = .ok (.invokevirtual 41, 3) := by decide +kernel
theorem dX10_setRaw_35 : decode cX10_setRaw 35 = .ok (.aload_n 0, 1) := by decide +kernel
theorem dX10_setRaw_36 : decode cX10_setRaw 36 = .ok (.getfield 7, 3) := by decide +kernel
theorem dX10_setRaw_39 : decode cX10_setRaw 39 = .ok (.bipush 14, 2) := by decide +kernel
theorem dX10_setRaw_41 : decode cX10_setRaw 41 = .ok (.iload_n 1, 1) := by decide +kernel
theorem dX10_setRaw_42 : decode cX10_setRaw 42 = .ok (.iadd, 1) := by decide +kernel
theorem dX10_setRaw_43 : decode cX10_setRaw 43 = .ok (.iload_n 2, 1) := by decide +kernel
theorem dX10_setRaw_44 : decode cX10_setRaw 44 = .ok (.i2l, 1) := by decide +kernel
theorem dX10_setRaw_45 : decode cX10_setRaw 45 = .ok (.lastore, 1) := by decide +kernel
theorem dX10_setRaw_46 : decode cX10_setRaw 46 = .ok (.aload_n 0, 1) := by decide +kernel
theorem dX10_setRaw_47 : decode cX10_setRaw 47 = .ok (.iload_n 1, 1) := by decide +kernel
theorem dX10_setRaw_48 : decode cX10_setRaw 48 = .ok (.invokevirtual 88, 3) := by decide +kernel
theorem dX10_setRaw_51 : decode cX10_setRaw 51 = .ok (.l2i, 1) := by decide +kernel
theorem dX10_setRaw_52 : decode cX10_setRaw 52 = .ok (.ireturn, 1) := by decide +kernel
set_option maxRecDepth 20000 in
theorem ggX10_readingOf_X10_floor : GoodIn wsX10_readingOf wsX10_floor := goodIn_r _ [8] (by decide +kernel) (by decide +kernel)
set_option maxRecDepth 20000 in
theorem gX10_readingOf_X10_floor : GoodIn wsX10_readingOf (va_wsS RX10 94 yX10_floor wsX10_floor) := goodIn_app (goodIn_of _ (by decide +kernel)) ggX10_readingOf_X10_floor
theorem dX10_readingOf_0 : decode cX10_readingOf 0 = .ok (.iload_n 1, 1) := by decide +kernel
theorem dX10_readingOf_1 : decode cX10_readingOf 1 = .ok (.iconst 3, 1) := by decide +kernel
theorem dX10_readingOf_2 : decode cX10_readingOf 2 = .ok (.if_icmp .ne 9, 3) := by decide +kernel
theorem dX10_readingOf_5 : decode cX10_readingOf 5 = .ok (.ldc2_w 28, 3) := by decide +kernel
theorem dX10_readingOf_8 : decode cX10_readingOf 8 = .ok (.goto 4, 3) := by decide +kernel
theorem dX10_readingOf_11 : decode cX10_readingOf 11 = .ok (.lconst 0, 1) := by decide +kernel
theorem dX10_readingOf_12 : decode cX10_readingOf 12 = .ok (.aload_n 0, 1) := by decide +kernel
theorem dX10_readingOf_13 : decode cX10_readingOf 13 = .ok (.getfield 7, 3) := by decide +kernel
theorem dX10_readingOf_16 : decode cX10_readingOf 16 = .ok (.bipush 6, 2) := by decide +kernel
theorem dX10_readingOf_18 : decode cX10_readingOf 18 = .ok (.iload_n 1, 1) := by decide +kernel
theorem dX10_readingOf_19 : decode cX10_readingOf 19 = .ok (.iadd, 1) := by decide +kernel
theorem dX10_readingOf_20 : decode cX10_readingOf 20 = .ok (.laload, 1) := by decide +kernel
theorem dX10_readingOf_21 : decode cX10_readingOf 21 = .ok (.aload_n 0, 1) := by decide +kernel
theorem dX10_readingOf_22 : decode cX10_readingOf 22 = .ok (.getfield 7, 3) := by decide +kernel
theorem dX10_readingOf_25 : decode cX10_readingOf 25 = .ok (.bipush 14, 2) := by decide +kernel
theorem dX10_readingOf_27 : decode cX10_readingOf 27 = .ok (.iload_n 1, 1) := by decide +kernel
theorem dX10_readingOf_28 : decode cX10_readingOf 28 = .ok (.iadd, 1) := by decide +kernel
theorem dX10_readingOf_29 : decode cX10_readingOf 29 = .ok (.laload, 1) := by decide +kernel
theorem dX10_readingOf_30 : decode cX10_readingOf 30 = .ok (.ldc2_w 26, 3) := by decide +kernel
theorem dX10_readingOf_33 : decode cX10_readingOf 33 = .ok (.lsub, 1) := by decide +kernel
theorem dX10_readingOf_34 : decode cX10_readingOf 34 = .ok (.lmul, 1) := by decide +kernel
theorem dX10_readingOf_35 : decode cX10_readingOf 35 = .ok (.ldc2_w 92, 3) := by decide +kernel
theorem dX10_readingOf_38 : decode cX10_readingOf 38 = .ok (.invokestatic 94, 3) := by decide +kernel
theorem dX10_readingOf_41 : decode cX10_readingOf 41 = .ok (.ladd, 1) := by decide +kernel
theorem dX10_readingOf_42 : decode cX10_readingOf 42 = .ok (.lreturn, 1) := by decide +kernel
theorem dX10_isFaulty_0 : decode cX10_isFaulty 0 = .ok (.aload_n 0, 1) := by decide +kernel
theorem dX10_isFaulty_1 : decode cX10_isFaulty 1 = .ok (.getfield 7, 3) := by decide +kernel
theorem dX10_isFaulty_4 : decode cX10_isFaulty 4 = .ok (.bipush 14, 2) := by decide +kernel
theorem dX10_isFaulty_6 : decode cX10_isFaulty 6 = .ok (.iload_n 1, 1) := by decide +kernel
theorem dX10_isFaulty_7 : decode cX10_isFaulty 7 = .ok (.iadd, 1) := by decide +kernel
theorem dX10_isFaulty_8 : decode cX10_isFaulty 8 = .ok (.laload, 1) := by decide +kernel
theorem dX10_isFaulty_9 : decode cX10_isFaulty 9 = .ok (.ldc2_w 98, 3) := by decide +kernel
theorem dX10_isFaulty_12 : decode cX10_isFaulty 12 = .ok (.lcmp, 1) := by decide +kernel
theorem dX10_isFaulty_13 : decode cX10_isFaulty 13 = .ok (.ifCond .ge 7, 3) := by decide +kernel
theorem dX10_isFaulty_16 : decode cX10_isFaulty 16 = .ok (.iconst 1, 1) := by decide +kernel
theorem dX10_isFaulty_17 : decode cX10_isFaulty 17 = .ok (.goto 4, 3) := by decide +kernel
theorem dX10_isFaulty_20 : decode cX10_isFaulty 20 = .ok (.iconst 0, 1) := by decide +kernel
theorem dX10_isFaulty_21 : decode cX10_isFaulty 21 = .ok (.ireturn, 1) := by decide +kernel
set_option maxRecDepth 20000 in
theorem ggX10_densityAt_X10_floor : GoodIn wsX10_densityAt wsX10_floor := goodIn_r _ [11] (by decide +kernel) (by decide +kernel)
set_option maxRecDepth 20000 in
theorem gX10_densityAt_X10_floor : GoodIn wsX10_densityAt (va_wsS RX10 94 yX10_floor wsX10_floor) := goodIn_app (goodIn_of _ (by decide +kernel)) ggX10_densityAt_X10_floor
theorem dX10_densityAt_0 : decode cX10_densityAt 0 = .ok (.aload_n 0, 1) := by decide +kernel
theorem dX10_densityAt_1 : decode cX10_densityAt 1 = .ok (.getfield 7, 3) := by decide +kernel
theorem dX10_densityAt_4 : decode cX10_densityAt 4 = .ok (.iconst 1, 1) := by decide +kernel
theorem dX10_densityAt_5 : decode cX10_densityAt 5 = .ok (.laload, 1) := by decide +kernel
theorem dX10_densityAt_6 : decode cX10_densityAt 6 = .ok (.lconst 1, 1) := by decide +kernel
theorem dX10_densityAt_7 : decode cX10_densityAt 7 = .ok (.lcmp, 1) := by decide +kernel
theorem dX10_densityAt_8 : decode cX10_densityAt 8 = .ok (.ifCond .ne 54, 3) := by decide +kernel
theorem dX10_densityAt_11 : decode cX10_densityAt 11 = .ok (.lload_n 3, 1) := by decide +kernel
theorem dX10_densityAt_12 : decode cX10_densityAt 12 = .ok (.ldc2_w 100, 3) := by decide +kernel
theorem dX10_densityAt_15 : decode cX10_densityAt 15 = .ok (.ladd, 1) := by decide +kernel
theorem dX10_densityAt_16 : decode cX10_densityAt 16 = .ok (.lstore 5, 2) := by decide +kernel
theorem dX10_densityAt_18 : decode cX10_densityAt 18 = .ok (.aload_n 0, 1) := by decide +kernel
theorem dX10_densityAt_19 : decode cX10_densityAt 19 = .ok (.getfield 7, 3) := by decide +kernel
theorem dX10_densityAt_22 : decode cX10_densityAt 22 = .ok (.bipush 26, 2) := by decide +kernel
theorem dX10_densityAt_24 : decode cX10_densityAt 24 = .ok (.laload, 1) := by decide +kernel
theorem dX10_densityAt_25 : decode cX10_densityAt 25 = .ok (.lload_n 1, 1) := by decide +kernel
theorem dX10_densityAt_26 : decode cX10_densityAt 26 = .ok (.lconst 0, 1) := by decide +kernel
theorem dX10_densityAt_27 : decode cX10_densityAt 27 = .ok (.lcmp, 1) := by decide +kernel
theorem dX10_densityAt_28 : decode cX10_densityAt 28 = .ok (.ifCond .le 7, 3) := by decide +kernel
theorem dX10_densityAt_31 : decode cX10_densityAt 31 = .ok (.lload_n 1, 1) := by decide +kernel
theorem dX10_densityAt_32 : decode cX10_densityAt 32 = .ok (.goto 4, 3) := by decide +kernel
theorem dX10_densityAt_35 : decode cX10_densityAt 35 = .ok (.lconst 0, 1) := by decide +kernel
theorem dX10_densityAt_36 : decode cX10_densityAt 36 = .ok (.lmul, 1) := by decide +kernel
theorem dX10_densityAt_37 : decode cX10_densityAt 37 = .ok (.ldc2_w 102, 3) := by decide +kernel
theorem dX10_densityAt_40 : decode cX10_densityAt 40 = .ok (.lmul, 1) := by decide +kernel
theorem dX10_densityAt_41 : decode cX10_densityAt 41 = .ok (.ldc2_w 104, 3) := by decide +kernel
theorem dX10_densityAt_44 : decode cX10_densityAt 44 = .ok (.lload 5, 2) := by decide +kernel
theorem dX10_densityAt_46 : decode cX10_densityAt 46 = .ok (.lconst 1, 1) := by decide +kernel
theorem dX10_densityAt_47 : decode cX10_densityAt 47 = .ok (.lcmp, 1) := by decide +kernel
theorem dX10_densityAt_48 : decode cX10_densityAt 48 = .ok (.ifCond .le 8, 3) := by decide +kernel
theorem dX10_densityAt_51 : decode cX10_densityAt 51 = .ok (.lload 5, 2) := by decide +kernel
theorem dX10_densityAt_53 : decode cX10_densityAt 53 = .ok (.goto 4, 3) := by decide +kernel
theorem dX10_densityAt_56 : decode cX10_densityAt 56 = .ok (.lconst 1, 1) := by decide +kernel
theorem dX10_densityAt_57 : decode cX10_densityAt 57 = .ok (.lmul, 1) := by decide +kernel
theorem dX10_densityAt_58 : decode cX10_densityAt 58 = .ok (.invokestatic 94, 3) := by decide +kernel
theorem dX10_densityAt_61 : decode cX10_densityAt 61 = .ok (.lreturn, 1) := by decide +kernel
theorem dX10_densityAt_62 : decode cX10_densityAt 62 = .ok (.lload_n 3, 1) := by decide +kernel
theorem dX10_densityAt_63 : decode cX10_densityAt 63 = .ok (.ldc2_w 106, 3) := by decide +kernel
theorem dX10_densityAt_66 : decode cX10_densityAt 66 = .ok (.lcmp, 1) := by decide +kernel
theorem dX10_densityAt_67 : decode cX10_densityAt 67 = .ok (.ifCond .gt 11, 3) := by decide +kernel
theorem dX10_densityAt_70 : decode cX10_densityAt 70 = .ok (.aload_n 0, 1) := by decide +kernel
theorem dX10_densityAt_71 : decode cX10_densityAt 71 = .ok (.getfield 7, 3) := by decide +kernel
theorem dX10_densityAt_74 : decode cX10_densityAt 74 = .ok (.bipush 26, 2) := by decide +kernel
theorem dX10_densityAt_76 : decode cX10_densityAt 76 = .ok (.laload, 1) := by decide +kernel
theorem dX10_densityAt_77 : decode cX10_densityAt 77 = .ok (.lreturn, 1) := by decide +kernel
theorem dX10_densityAt_78 : decode cX10_densityAt 78 = .ok (.lload_n 3, 1) := by decide +kernel
theorem dX10_densityAt_79 : decode cX10_densityAt 79 = .ok (.ldc2_w 108, 3) := by decide +kernel
theorem dX10_densityAt_82 : decode cX10_densityAt 82 = .ok (.lcmp, 1) := by decide +kernel
theorem dX10_densityAt_83 : decode cX10_densityAt 83 = .ok (.ifCond .lt 11, 3) := by decide +kernel
theorem dX10_densityAt_86 : decode cX10_densityAt 86 = .ok (.aload_n 0, 1) := by decide +kernel
theorem dX10_densityAt_87 : decode cX10_densityAt 87 = .ok (.getfield 7, 3) := by decide +kernel
theorem dX10_densityAt_90 : decode cX10_densityAt 90 = .ok (.bipush 31, 2) := by decide +kernel
theorem dX10_densityAt_92 : decode cX10_densityAt 92 = .ok (.laload, 1) := by decide +kernel
theorem dX10_densityAt_93 : decode cX10_densityAt 93 = .ok (.lreturn, 1) := by decide +kernel
theorem dX10_densityAt_94 : decode cX10_densityAt 94 = .ok (.lload_n 3, 1) := by decide +kernel
theorem dX10_densityAt_95 : decode cX10_densityAt 95 = .ok (.ldc2_w 110, 3) := by decide +kernel
theorem dX10_densityAt_98 : decode cX10_densityAt 98 = .ok (.ladd, 1) := by decide +kernel
theorem dX10_densityAt_99 : decode cX10_densityAt 99 = .ok (.ldc2_w 110, 3) := by decide +kernel
theorem dX10_densityAt_102 : decode cX10_densityAt 102 = .ok (.ldiv, 1) := by decide +kernel
theorem dX10_densityAt_103 : decode cX10_densityAt 103 = .ok (.l2i, 1) := by decide +kernel
theorem dX10_densityAt_104 : decode cX10_densityAt 104 = .ok (.istore 5, 2) := by decide +kernel
theorem dX10_densityAt_106 : decode cX10_densityAt 106 = .ok (.aload_n 0, 1) := by decide +kernel
theorem dX10_densityAt_107 : decode cX10_densityAt 107 = .ok (.getfield 7, 3) := by decide +kernel
theorem dX10_densityAt_110 : decode cX10_densityAt 110 = .ok (.bipush 26, 2) := by decide +kernel
theorem dX10_densityAt_112 : decode cX10_densityAt 112 = .ok (.iload 5, 2) := by decide +kernel
theorem dX10_densityAt_114 : decode cX10_densityAt 114 = .ok (.iadd, 1) := by decide +kernel
theorem dX10_densityAt_115 : decode cX10_densityAt 115 = .ok (.laload, 1) := by decide +kernel
theorem dX10_densityAt_116 : decode cX10_densityAt 116 = .ok (.aload_n 0, 1) := by decide +kernel
theorem dX10_densityAt_117 : decode cX10_densityAt 117 = .ok (.getfield 7, 3) := by decide +kernel
theorem dX10_densityAt_120 : decode cX10_densityAt 120 = .ok (.bipush 26, 2) := by decide +kernel
theorem dX10_densityAt_122 : decode cX10_densityAt 122 = .ok (.iload 5, 2) := by decide +kernel
theorem dX10_densityAt_124 : decode cX10_densityAt 124 = .ok (.iadd, 1) := by decide +kernel
theorem dX10_densityAt_125 : decode cX10_densityAt 125 = .ok (.iconst 1, 1) := by decide +kernel
theorem dX10_densityAt_126 : decode cX10_densityAt 126 = .ok (.iadd, 1) := by decide +kernel
theorem dX10_densityAt_127 : decode cX10_densityAt 127 = .ok (.laload, 1) := by decide +kernel
theorem dX10_densityAt_128 : decode cX10_densityAt 128 = .ok (.aload_n 0, 1) := by decide +kernel
theorem dX10_densityAt_129 : decode cX10_densityAt 129 = .ok (.getfield 7, 3) := by decide +kernel
theorem dX10_densityAt_132 : decode cX10_densityAt 132 = .ok (.bipush 26, 2) := by decide +kernel
theorem dX10_densityAt_134 : decode cX10_densityAt 134 = .ok (.iload 5, 2) := by decide +kernel
theorem dX10_densityAt_136 : decode cX10_densityAt 136 = .ok (.iadd, 1) := by decide +kernel
theorem dX10_densityAt_137 : decode cX10_densityAt 137 = .ok (.laload, 1) := by decide +kernel
theorem dX10_densityAt_138 : decode cX10_densityAt 138 = .ok (.lsub, 1) := by decide +kernel
theorem dX10_densityAt_139 : decode cX10_densityAt 139 = .ok (.lload_n 3, 1) := by decide +kernel
theorem dX10_densityAt_140 : decode cX10_densityAt 140 = .ok (.ldc2_w 110, 3) := by decide +kernel
theorem dX10_densityAt_143 : decode cX10_densityAt 143 = .ok (.ladd, 1) := by decide +kernel
theorem dX10_densityAt_144 : decode cX10_densityAt 144 = .ok (.ldc2_w 110, 3) := by decide +kernel
theorem dX10_densityAt_147 : decode cX10_densityAt 147 = .ok (.iload 5, 2) := by decide +kernel
theorem dX10_densityAt_149 : decode cX10_densityAt 149 = .ok (.i2l, 1) := by decide +kernel
theorem dX10_densityAt_150 : decode cX10_densityAt 150 = .ok (.lmul, 1) := by decide +kernel
theorem dX10_densityAt_151 : decode cX10_densityAt 151 = .ok (.lsub, 1) := by decide +kernel
theorem dX10_densityAt_152 : decode cX10_densityAt 152 = .ok (.lmul, 1) := by decide +kernel
theorem dX10_densityAt_153 : decode cX10_densityAt 153 = .ok (.ldc2_w 110, 3) := by decide +kernel
theorem dX10_densityAt_156 : decode cX10_densityAt 156 = .ok (.invokestatic 94, 3) := by decide +kernel
theorem dX10_densityAt_159 : decode cX10_densityAt 159 = .ok (.ladd, 1) := by decide +kernel
theorem dX10_densityAt_160 : decode cX10_densityAt 160 = .ok (.lreturn, 1) := by decide +kernel
theorem dX10_root_0 : decode cX10_root 0 = .ok (.lconst 0, 1) := by decide +kernel
theorem dX10_root_1 : decode cX10_root 1 = .ok (.lstore_n 2, 1) := by decide +kernel
theorem dX10_root_2 : decode cX10_root 2 = .ok (.ldc2_w 112, 3) := by decide +kernel
theorem dX10_root_5 : decode cX10_root 5 = .ok (.lstore 4, 2) := by decide +kernel
theorem dX10_root_7 : decode cX10_root 7 = .ok (.lload_n 2, 1) := by decide +kernel
theorem dX10_root_8 : decode cX10_root 8 = .ok (.lload 4, 2) := by decide +kernel
theorem dX10_root_10 : decode cX10_root 10 = .ok (.lcmp, 1) := by decide +kernel
theorem dX10_root_11 : decode cX10_root 11 = .ok (.ifCond .ge 40, 3) := by decide +kernel
theorem dX10_root_14 : decode cX10_root 14 = .ok (.lload_n 2, 1) := by decide +kernel
theorem dX10_root_15 : decode cX10_root 15 = .ok (.lload 4, 2) := by decide +kernel
theorem dX10_root_17 : decode cX10_root 17 = .ok (.ladd, 1) := by decide +kernel
theorem dX10_root_18 : decode cX10_root 18 = .ok (.lconst 1, 1) := by decide +kernel
theorem dX10_root_19 : decode cX10_root 19 = .ok (.ladd, 1) := by decide +kernel
theorem dX10_root_20 : decode cX10_root 20 = .ok (.ldc2_w 114, 3) := by decide +kernel
theorem dX10_root_23 : decode cX10_root 23 = .ok (.ldiv, 1) := by decide +kernel
theorem dX10_root_24 : decode cX10_root 24 = .ok (.lstore 6, 2) := by decide +kernel
theorem dX10_root_26 : decode cX10_root 26 = .ok (.lload 6, 2) := by decide +kernel
theorem dX10_root_28 : decode cX10_root 28 = .ok (.lload 6, 2) := by decide +kernel
theorem dX10_root_30 : decode cX10_root 30 = .ok (.lmul, 1) := by decide +kernel
theorem dX10_root_31 : decode cX10_root 31 = .ok (.lload_n 0, 1) := by decide +kernel
theorem dX10_root_32 : decode cX10_root 32 = .ok (.lcmp, 1) := by decide +kernel
theorem dX10_root_33 : decode cX10_root 33 = .ok (.ifCond .gt 9, 3) := by decide +kernel
theorem dX10_root_36 : decode cX10_root 36 = .ok (.lload 6, 2) := by decide +kernel
theorem dX10_root_38 : decode cX10_root 38 = .ok (.lstore_n 2, 1) := by decide +kernel
theorem dX10_root_39 : decode cX10_root 39 = .ok (.goto 9, 3) := by decide +kernel
theorem dX10_root_42 : decode cX10_root 42 = .ok (.lload 6, 2) := by decide +kernel
theorem dX10_root_44 : decode cX10_root 44 = .ok (.lconst 1, 1) := by decide +kernel
theorem dX10_root_45 : decode cX10_root 45 = .ok (.lsub, 1) := by decide +kernel
theorem dX10_root_46 : decode cX10_root 46 = .ok (.lstore 4, 2) := by decide +kernel
theorem dX10_root_48 : decode cX10_root 48 = .ok (.goto (-41), 3) := by decide +kernel
theorem dX10_root_51 : decode cX10_root 51 = .ok (.lload_n 2, 1) := by decide +kernel
theorem dX10_root_52 : decode cX10_root 52 = .ok (.lreturn, 1) := by decide +kernel
theorem dX10_flowAt_0 : decode cX10_flowAt 0 = .ok (.iload_n 0, 1) := by decide +kernel
theorem dX10_flowAt_1 : decode cX10_flowAt 1 = .ok (.ifCond .ne 7, 3) := by decide +kernel
theorem dX10_flowAt_4 : decode cX10_flowAt 4 = .ok (.lconst 0, 1) := by decide +kernel
theorem dX10_flowAt_5 : decode cX10_flowAt 5 = .ok (.goto 39, 3) := by decide +kernel
theorem dX10_flowAt_8 : decode cX10_flowAt 8 = .ok (.iload_n 0, 1) := by decide +kernel
theorem dX10_flowAt_9 : decode cX10_flowAt 9 = .ok (.iconst 1, 1) := by decide +kernel
theorem dX10_flowAt_10 : decode cX10_flowAt 10 = .ok (.if_icmp .ne 9, 3) := by decide +kernel
theorem dX10_flowAt_13 : decode cX10_flowAt 13 = .ok (.ldc2_w 16, 3) := by decide +kernel
theorem dX10_flowAt_16 : decode cX10_flowAt 16 = .ok (.goto 28, 3) := by decide +kernel
theorem dX10_flowAt_19 : decode cX10_flowAt 19 = .ok (.iload_n 0, 1) := by decide +kernel
theorem dX10_flowAt_20 : decode cX10_flowAt 20 = .ok (.iconst 2, 1) := by decide +kernel
theorem dX10_flowAt_21 : decode cX10_flowAt 21 = .ok (.if_icmp .ne 9, 3) := by decide +kernel
theorem dX10_flowAt_24 : decode cX10_flowAt 24 = .ok (.ldc2_w 116, 3) := by decide +kernel
theorem dX10_flowAt_27 : decode cX10_flowAt 27 = .ok (.goto 17, 3) := by decide +kernel
theorem dX10_flowAt_30 : decode cX10_flowAt 30 = .ok (.iload_n 0, 1) := by decide +kernel
theorem dX10_flowAt_31 : decode cX10_flowAt 31 = .ok (.iconst 3, 1) := by decide +kernel
theorem dX10_flowAt_32 : decode cX10_flowAt 32 = .ok (.if_icmp .ne 9, 3) := by decide +kernel
theorem dX10_flowAt_35 : decode cX10_flowAt 35 = .ok (.ldc2_w 22, 3) := by decide +kernel
theorem dX10_flowAt_38 : decode cX10_flowAt 38 = .ok (.goto 6, 3) := by decide +kernel
theorem dX10_flowAt_41 : decode cX10_flowAt 41 = .ok (.ldc2_w 64, 3) := by decide +kernel
theorem dX10_flowAt_44 : decode cX10_flowAt 44 = .ok (.lreturn, 1) := by decide +kernel
set_option maxRecDepth 20000 in
theorem ggX10_factorAt_X10_flowAt : GoodIn wsX10_factorAt wsX10_flowAt := goodIn_r _ [6, 7, 8, 9, 1] (by decide +kernel) (by decide +kernel)
set_option maxRecDepth 20000 in
theorem gX10_factorAt_X10_flowAt : GoodIn wsX10_factorAt (va_wsS RX10 118 yX10_flowAt wsX10_flowAt) := goodIn_app (goodIn_of _ (by decide +kernel)) ggX10_factorAt_X10_flowAt
set_option maxRecDepth 20000 in
theorem ggX10_factorAt_X10_floor : GoodIn wsX10_factorAt wsX10_floor := goodIn_r _ [12] (by decide +kernel) (by decide +kernel)
set_option maxRecDepth 20000 in
theorem gX10_factorAt_X10_floor : GoodIn wsX10_factorAt (va_wsS RX10 94 yX10_floor wsX10_floor) := goodIn_app (goodIn_of _ (by decide +kernel)) ggX10_factorAt_X10_floor
theorem dX10_factorAt_0 : decode cX10_factorAt 0 = .ok (.lload_n 1, 1) := by decide +kernel
theorem dX10_factorAt_1 : decode cX10_factorAt 1 = .ok (.ldc2_w 64, 3) := by decide +kernel
theorem dX10_factorAt_4 : decode cX10_factorAt 4 = .ok (.lcmp, 1) := by decide +kernel
theorem dX10_factorAt_5 : decode cX10_factorAt 5 = .ok (.ifCond .lt 11, 3) := by decide +kernel
theorem dX10_factorAt_8 : decode cX10_factorAt 8 = .ok (.aload_n 0, 1) := by decide +kernel
theorem dX10_factorAt_9 : decode cX10_factorAt 9 = .ok (.getfield 7, 3) := by decide +kernel
theorem dX10_factorAt_12 : decode cX10_factorAt 12 = .ok (.bipush 36, 2) := by decide +kernel
theorem dX10_factorAt_14 : decode cX10_factorAt 14 = .ok (.laload, 1) := by decide +kernel
theorem dX10_factorAt_15 : decode cX10_factorAt 15 = .ok (.lreturn, 1) := by decide +kernel
theorem dX10_factorAt_16 : decode cX10_factorAt 16 = .ok (.iconst 3, 1) := by decide +kernel
theorem dX10_factorAt_17 : decode cX10_factorAt 17 = .ok (.istore_n 3, 1) := by decide +kernel
theorem dX10_factorAt_18 : decode cX10_factorAt 18 = .ok (.iload_n 3, 1) := by decide +kernel
theorem dX10_factorAt_19 : decode cX10_factorAt 19 = .ok (.invokestatic 118, 3) := by decide +kernel
theorem dX10_factorAt_22 : decode cX10_factorAt 22 = .ok (.lload_n 1, 1) := by decide +kernel
theorem dX10_factorAt_23 : decode cX10_factorAt 23 = .ok (.lcmp, 1) := by decide +kernel
theorem dX10_factorAt_24 : decode cX10_factorAt 24 = .ok (.ifCond .le 9, 3) := by decide +kernel
theorem dX10_factorAt_27 : decode cX10_factorAt 27 = .ok (.iinc 3 (-1), 3) := by decide +kernel
theorem dX10_factorAt_30 : decode cX10_factorAt 30 = .ok (.goto (-12), 3) := by decide +kernel
theorem dX10_factorAt_33 : decode cX10_factorAt 33 = .ok (.aload_n 0, 1) := by decide +kernel
theorem dX10_factorAt_34 : decode cX10_factorAt 34 = .ok (.getfield 7, 3) := by decide +kernel
theorem dX10_factorAt_37 : decode cX10_factorAt 37 = .ok (.bipush 32, 2) := by decide +kernel
theorem dX10_factorAt_39 : decode cX10_factorAt 39 = .ok (.iload_n 3, 1) := by decide +kernel
theorem dX10_factorAt_40 : decode cX10_factorAt 40 = .ok (.iadd, 1) := by decide +kernel
theorem dX10_factorAt_41 : decode cX10_factorAt 41 = .ok (.laload, 1) := by decide +kernel
theorem dX10_factorAt_42 : decode cX10_factorAt 42 = .ok (.aload_n 0, 1) := by decide +kernel
theorem dX10_factorAt_43 : decode cX10_factorAt 43 = .ok (.getfield 7, 3) := by decide +kernel
theorem dX10_factorAt_46 : decode cX10_factorAt 46 = .ok (.bipush 32, 2) := by decide +kernel
theorem dX10_factorAt_48 : decode cX10_factorAt 48 = .ok (.iload_n 3, 1) := by decide +kernel
theorem dX10_factorAt_49 : decode cX10_factorAt 49 = .ok (.iadd, 1) := by decide +kernel
theorem dX10_factorAt_50 : decode cX10_factorAt 50 = .ok (.iconst 1, 1) := by decide +kernel
theorem dX10_factorAt_51 : decode cX10_factorAt 51 = .ok (.iadd, 1) := by decide +kernel
theorem dX10_factorAt_52 : decode cX10_factorAt 52 = .ok (.laload, 1) := by decide +kernel
theorem dX10_factorAt_53 : decode cX10_factorAt 53 = .ok (.aload_n 0, 1) := by decide +kernel
theorem dX10_factorAt_54 : decode cX10_factorAt 54 = .ok (.getfield 7, 3) := by decide +kernel
theorem dX10_factorAt_57 : decode cX10_factorAt 57 = .ok (.bipush 32, 2) := by decide +kernel
theorem dX10_factorAt_59 : decode cX10_factorAt 59 = .ok (.iload_n 3, 1) := by decide +kernel
theorem dX10_factorAt_60 : decode cX10_factorAt 60 = .ok (.iadd, 1) := by decide +kernel
theorem dX10_factorAt_61 : decode cX10_factorAt 61 = .ok (.laload, 1) := by decide +kernel
theorem dX10_factorAt_62 : decode cX10_factorAt 62 = .ok (.lsub, 1) := by decide +kernel
theorem dX10_factorAt_63 : decode cX10_factorAt 63 = .ok (.lload_n 1, 1) := by decide +kernel
theorem dX10_factorAt_64 : decode cX10_factorAt 64 = .ok (.iload_n 3, 1) := by decide +kernel
theorem dX10_factorAt_65 : decode cX10_factorAt 65 = .ok (.invokestatic 118, 3) := by decide +kernel
theorem dX10_factorAt_68 : decode cX10_factorAt 68 = .ok (.lsub, 1) := by decide +kernel
theorem dX10_factorAt_69 : decode cX10_factorAt 69 = .ok (.lmul, 1) := by decide +kernel
theorem dX10_factorAt_70 : decode cX10_factorAt 70 = .ok (.iload_n 3, 1) := by decide +kernel
theorem dX10_factorAt_71 : decode cX10_factorAt 71 = .ok (.iconst 1, 1) := by decide +kernel
theorem dX10_factorAt_72 : decode cX10_factorAt 72 = .ok (.iadd, 1) := by decide +kernel
theorem dX10_factorAt_73 : decode cX10_factorAt 73 = .ok (.invokestatic 118, 3) := by decide +kernel
theorem dX10_factorAt_76 : decode cX10_factorAt 76 = .ok (.iload_n 3, 1) := by decide +kernel
theorem dX10_factorAt_77 : decode cX10_factorAt 77 = .ok (.invokestatic 118, 3) := by decide +kernel
theorem dX10_factorAt_80 : decode cX10_factorAt 80 = .ok (.lsub, 1) := by decide +kernel
theorem dX10_factorAt_81 : decode cX10_factorAt 81 = .ok (.invokestatic 94, 3) := by decide +kernel
theorem dX10_factorAt_84 : decode cX10_factorAt 84 = .ok (.ladd, 1) := by decide +kernel
theorem dX10_factorAt_85 : decode cX10_factorAt 85 = .ok (.lreturn, 1) := by decide +kernel
set_option maxRecDepth 20000 in
theorem ggX10_flowBy_X10_densityAt : GoodIn wsX10_flowBy wsX10_densityAt := goodIn_r _ [11, 1, 12, 13, 14, 15, 16, 17, 18, 19, 10, 20, 35, 36, 37, 38, 39] (by decide +kernel) (by decide +kernel)
set_option maxRecDepth 20000 in
theorem gX10_flowBy_X10_densityAt : GoodIn wsX10_flowBy (wsV RX10 121 RX10 yX10_densityAt wsX10_densityAt) := goodIn_app (goodIn_of _ (by decide +kernel)) ggX10_flowBy_X10_densityAt
set_option maxRecDepth 20000 in
theorem ggX10_flowBy_X10_root : GoodIn wsX10_flowBy wsX10_root := goodIn_r _ [23, 24, 25] (by decide +kernel) (by decide +kernel)
set_option maxRecDepth 20000 in
theorem gX10_flowBy_X10_root : GoodIn wsX10_flowBy (va_wsS RX10 124 yX10_root wsX10_root) := goodIn_app (goodIn_of _ (by decide +kernel)) ggX10_flowBy_X10_root
set_option maxRecDepth 20000 in
theorem ggX10_flowBy_X10_factorAt : GoodIn wsX10_flowBy wsX10_factorAt := goodIn_r _ [29, 30, 1, 31, 32, 10, 33, 4, 34, 3, 18, 19, 20, 35, 36, 37, 38, 39] (by decide +kernel) (by decide +kernel)
set_option maxRecDepth 20000 in
theorem gX10_flowBy_X10_factorAt : GoodIn wsX10_flowBy (wsV RX10 132 RX10 yX10_factorAt wsX10_factorAt) := goodIn_app (goodIn_of _ (by decide +kernel)) ggX10_flowBy_X10_factorAt
theorem dX10_flowBy_0 : decode cX10_flowBy 0 = .ok (.aload_n 0, 1) := by decide +kernel
theorem dX10_flowBy_1 : decode cX10_flowBy 1 = .ok (.getfield 7, 3) := by decide +kernel
theorem dX10_flowBy_4 : decode cX10_flowBy 4 = .ok (.iconst 2, 1) := by decide +kernel
theorem dX10_flowBy_5 : decode cX10_flowBy 5 = .ok (.laload, 1) := by decide +kernel
theorem dX10_flowBy_6 : decode cX10_flowBy 6 = .ok (.ldc2_w 62, 3) := by decide +kernel
theorem dX10_flowBy_9 : decode cX10_flowBy 9 = .ok (.lload_n 1, 1) := by decide +kernel
theorem dX10_flowBy_10 : decode cX10_flowBy 10 = .ok (.lmul, 1) := by decide +kernel
theorem dX10_flowBy_11 : decode cX10_flowBy 11 = .ok (.aload_n 0, 1) := by decide +kernel
theorem dX10_flowBy_12 : decode cX10_flowBy 12 = .ok (.lload_n 3, 1) := by decide +kernel
theorem dX10_flowBy_13 : decode cX10_flowBy 13 = .ok (.lload 5, 2) := by decide +kernel
theorem dX10_flowBy_15 : decode cX10_flowBy 15 = .ok (.invokevirtual 121, 3) := by decide +kernel
theorem dX10_flowBy_18 : decode cX10_flowBy 18 = .ok (.lmul, 1) := by decide +kernel
theorem dX10_flowBy_19 : decode cX10_flowBy 19 = .ok (.invokestatic 124, 3) := by decide +kernel
theorem dX10_flowBy_22 : decode cX10_flowBy 22 = .ok (.lmul, 1) := by decide +kernel
theorem dX10_flowBy_23 : decode cX10_flowBy 23 = .ok (.ldc2_w 22, 3) := by decide +kernel
theorem dX10_flowBy_26 : decode cX10_flowBy 26 = .ok (.ldiv, 1) := by decide +kernel
theorem dX10_flowBy_27 : decode cX10_flowBy 27 = .ok (.lstore 7, 2) := by decide +kernel
theorem dX10_flowBy_29 : decode cX10_flowBy 29 = .ok (.aload_n 0, 1) := by decide +kernel
theorem dX10_flowBy_30 : decode cX10_flowBy 30 = .ok (.getfield 7, 3) := by decide +kernel
theorem dX10_flowBy_33 : decode cX10_flowBy 33 = .ok (.iconst 1, 1) := by decide +kernel
theorem dX10_flowBy_34 : decode cX10_flowBy 34 = .ok (.laload, 1) := by decide +kernel
theorem dX10_flowBy_35 : decode cX10_flowBy 35 = .ok (.lconst 1, 1) := by decide +kernel
theorem dX10_flowBy_36 : decode cX10_flowBy 36 = .ok (.lcmp, 1) := by decide +kernel
theorem dX10_flowBy_37 : decode cX10_flowBy 37 = .ok (.ifCond .ne 56, 3) := by decide +kernel
theorem dX10_flowBy_40 : decode cX10_flowBy 40 = .ok (.ldc2_w 16, 3) := by decide +kernel
theorem dX10_flowBy_43 : decode cX10_flowBy 43 = .ok (.ldc2_w 128, 3) := by decide +kernel
theorem dX10_flowBy_46 : decode cX10_flowBy 46 = .ok (.lload_n 1, 1) := by decide +kernel
theorem dX10_flowBy_47 : decode cX10_flowBy 47 = .ok (.lmul, 1) := by decide +kernel
theorem dX10_flowBy_48 : decode cX10_flowBy 48 = .ok (.ldc2_w 62, 3) := by decide +kernel
theorem dX10_flowBy_51 : decode cX10_flowBy 51 = .ok (.lload_n 3, 1) := by decide +kernel
theorem dX10_flowBy_52 : decode cX10_flowBy 52 = .ok (.lconst 1, 1) := by decide +kernel
theorem dX10_flowBy_53 : decode cX10_flowBy 53 = .ok (.lcmp, 1) := by decide +kernel
theorem dX10_flowBy_54 : decode cX10_flowBy 54 = .ok (.ifCond .le 7, 3) := by decide +kernel
theorem dX10_flowBy_57 : decode cX10_flowBy 57 = .ok (.lload_n 3, 1) := by decide +kernel
theorem dX10_flowBy_58 : decode cX10_flowBy 58 = .ok (.goto 4, 3) := by decide +kernel
theorem dX10_flowBy_61 : decode cX10_flowBy 61 = .ok (.lconst 1, 1) := by decide +kernel
theorem dX10_flowBy_62 : decode cX10_flowBy 62 = .ok (.lmul, 1) := by decide +kernel
theorem dX10_flowBy_63 : decode cX10_flowBy 63 = .ok (.ldiv, 1) := by decide +kernel
theorem dX10_flowBy_64 : decode cX10_flowBy 64 = .ok (.lsub, 1) := by decide +kernel
theorem dX10_flowBy_65 : decode cX10_flowBy 65 = .ok (.lstore 9, 2) := by decide +kernel
theorem dX10_flowBy_67 : decode cX10_flowBy 67 = .ok (.lload 7, 2) := by decide +kernel
theorem dX10_flowBy_69 : decode cX10_flowBy 69 = .ok (.lload 9, 2) := by decide +kernel
theorem dX10_flowBy_71 : decode cX10_flowBy 71 = .ok (.ldc2_w 130, 3) := by decide +kernel
theorem dX10_flowBy_74 : decode cX10_flowBy 74 = .ok (.lcmp, 1) := by decide +kernel
theorem dX10_flowBy_75 : decode cX10_flowBy 75 = .ok (.ifCond .le 8, 3) := by decide +kernel
theorem dX10_flowBy_78 : decode cX10_flowBy 78 = .ok (.lload 9, 2) := by decide +kernel
theorem dX10_flowBy_80 : decode cX10_flowBy 80 = .ok (.goto 6, 3) := by decide +kernel
theorem dX10_flowBy_83 : decode cX10_flowBy 83 = .ok (.ldc2_w 130, 3) := by decide +kernel
theorem dX10_flowBy_86 : decode cX10_flowBy 86 = .ok (.lmul, 1) := by decide +kernel
theorem dX10_flowBy_87 : decode cX10_flowBy 87 = .ok (.ldc2_w 16, 3) := by decide +kernel
theorem dX10_flowBy_90 : decode cX10_flowBy 90 = .ok (.ldiv, 1) := by decide +kernel
theorem dX10_flowBy_91 : decode cX10_flowBy 91 = .ok (.lstore 7, 2) := by decide +kernel
theorem dX10_flowBy_93 : decode cX10_flowBy 93 = .ok (.lload 7, 2) := by decide +kernel
theorem dX10_flowBy_95 : decode cX10_flowBy 95 = .ok (.aload_n 0, 1) := by decide +kernel
theorem dX10_flowBy_96 : decode cX10_flowBy 96 = .ok (.lload 7, 2) := by decide +kernel
theorem dX10_flowBy_98 : decode cX10_flowBy 98 = .ok (.invokevirtual 132, 3) := by decide +kernel
theorem dX10_flowBy_101 : decode cX10_flowBy 101 = .ok (.lmul, 1) := by decide +kernel
theorem dX10_flowBy_102 : decode cX10_flowBy 102 = .ok (.ldc2_w 22, 3) := by decide +kernel
theorem dX10_flowBy_105 : decode cX10_flowBy 105 = .ok (.ldiv, 1) := by decide +kernel
theorem dX10_flowBy_106 : decode cX10_flowBy 106 = .ok (.lreturn, 1) := by decide +kernel
set_option maxRecDepth 20000 in
theorem ggX10_senses_X10_isFaulty : GoodIn wsX10_senses wsX10_isFaulty := goodIn_r _ [6, 1, 7, 26, 27, 28, 29, 30] (by decide +kernel) (by decide +kernel)
set_option maxRecDepth 20000 in
theorem gX10_senses_X10_isFaulty : GoodIn wsX10_senses (wsV RX10 135 RX10 yX10_isFaulty wsX10_isFaulty) := goodIn_app (goodIn_of _ (by decide +kernel)) ggX10_senses_X10_isFaulty
set_option maxRecDepth 20000 in
theorem ggX10_senses_X10_logs : GoodIn wsX10_senses wsX10_logs := goodIn_r _ [11, 1, 12, 13, 14, 5, 15, 26, 27, 28, 29, 30] (by decide +kernel) (by decide +kernel)
set_option maxRecDepth 20000 in
theorem gX10_senses_X10_logs : GoodIn wsX10_senses (wsV RX10 44 RX10 yX10_logs wsX10_logs) := goodIn_app (goodIn_of _ (by decide +kernel)) ggX10_senses_X10_logs
set_option maxRecDepth 20000 in
theorem ggX10_senses_X10_readingOf : GoodIn wsX10_senses wsX10_readingOf := goodIn_r _ [19, 20, 1, 21, 22, 23, 24, 5, 25, 26, 27, 28, 29, 30] (by decide +kernel) (by decide +kernel)
set_option maxRecDepth 20000 in
theorem gX10_senses_X10_readingOf : GoodIn wsX10_senses (wsV RX10 88 RX10 yX10_readingOf wsX10_readingOf) := goodIn_app (goodIn_of _ (by decide +kernel)) ggX10_senses_X10_readingOf
set_option maxRecDepth 20000 in
theorem ggX10_senses_X10_floor : GoodIn wsX10_senses wsX10_floor := goodIn_r _ [25] (by decide +kernel) (by decide +kernel)
set_option maxRecDepth 20000 in
theorem gX10_senses_X10_floor : GoodIn wsX10_senses (va_wsS RX10 94 yX10_floor wsX10_floor) := goodIn_app (goodIn_of _ (by decide +kernel)) ggX10_senses_X10_floor
theorem dX10_senses_0 : decode cX10_senses 0 = .ok (.iconst 0, 1) := by decide +kernel
theorem dX10_senses_1 : decode cX10_senses 1 = .ok (.istore_n 1, 1) := by decide +kernel
theorem dX10_senses_2 : decode cX10_senses 2 = .ok (.iload_n 1, 1) := by decide +kernel
theorem dX10_senses_3 : decode cX10_senses 3 = .ok (.iconst 4, 1) := by decide +kernel
theorem dX10_senses_4 : decode cX10_senses 4 = .ok (.if_icmp .ge 112, 3) := by decide +kernel
theorem dX10_senses_7 : decode cX10_senses 7 = .ok (.aload_n 0, 1) := by decide +kernel
theorem dX10_senses_8 : decode cX10_senses 8 = .ok (.iload_n 1, 1) := by decide +kernel
theorem dX10_senses_9 : decode cX10_senses 9 = .ok (.invokevirtual 135, 3) := by decide +kernel
theorem dX10_senses_12 : decode cX10_senses 12 = .ok (.ifCond .eq 7, 3) := by decide +kernel
theorem dX10_senses_15 : decode cX10_senses 15 = .ok (.lconst 1, 1) := by decide +kernel
theorem dX10_senses_16 : decode cX10_senses 16 = .ok (.goto 4, 3) := by decide +kernel
theorem dX10_senses_19 : decode cX10_senses 19 = .ok (.lconst 0, 1) := by decide +kernel
theorem dX10_senses_20 : decode cX10_senses 20 = .ok (.lstore_n 2, 1) := by decide +kernel
theorem dX10_senses_21 : decode cX10_senses 21 = .ok (.lload_n 2, 1) := by decide +kernel
theorem dX10_senses_22 : decode cX10_senses 22 = .ok (.aload_n 0, 1) := by decide +kernel
theorem dX10_senses_23 : decode cX10_senses 23 = .ok (.getfield 7, 3) := by decide +kernel
theorem dX10_senses_26 : decode cX10_senses 26 = .ok (.bipush 22, 2) := by decide +kernel
theorem dX10_senses_28 : decode cX10_senses 28 = .ok (.iload_n 1, 1) := by decide +kernel
theorem dX10_senses_29 : decode cX10_senses 29 = .ok (.iadd, 1) := by decide +kernel
theorem dX10_senses_30 : decode cX10_senses 30 = .ok (.laload, 1) := by decide +kernel
theorem dX10_senses_31 : decode cX10_senses 31 = .ok (.lcmp, 1) := by decide +kernel
theorem dX10_senses_32 : decode cX10_senses 32 = .ok (.ifCond .eq 20, 3) := by decide +kernel

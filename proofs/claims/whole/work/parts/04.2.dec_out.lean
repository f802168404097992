set_option maxRecDepth 20000 in
theorem ggX11_init_X2_init : GoodIn wsX11_init wsX2_init := goodIn_r _ [33, 34, 2, 3, 35, 36, 37, 38, 39, 40, 41, 42, 43, 44, 45, 46, 47, 48, 49, 50, 120, 121, 122, 123, 124, 125, 126, 153, 154, 155, 156] (by rfl) (by decide +kernel)
set_option maxRecDepth 20000 in
theorem gX11_init_X2_init_n9 : GoodIn wsX11_init (wsX2_init) := ggX11_init_X2_init
set_option maxRecDepth 20000 in
theorem ggX11_init_X3_init : GoodIn wsX11_init wsX3_init := goodIn_r _ [52, 53, 2, 3, 54, 55, 56, 57, 58, 29, 30, 59, 60, 61, 62, 63, 64, 35, 65, 66, 67, 68, 157, 158, 134, 135, 136, 152] (by rfl) (by decide +kernel)
set_option maxRecDepth 20000 in
theorem gX11_init_X3_init_n18 : GoodIn wsX11_init (wsX3_init) := ggX11_init_X3_init
set_option maxRecDepth 20000 in
theorem ggX11_init_X4_init : GoodIn wsX11_init wsX4_init := goodIn_r _ [70, 71, 2, 3, 72, 55, 56, 73, 74, 75, 76, 77, 62, 63, 64, 35, 65, 157, 158, 137, 138, 139, 140] (by rfl) (by decide +kernel)
set_option maxRecDepth 20000 in
theorem gX11_init_X4_init_n25 : GoodIn wsX11_init (wsX4_init) := ggX11_init_X4_init
set_option maxRecDepth 20000 in
theorem ggX11_init_X7_init : GoodIn wsX11_init wsX7_init := goodIn_r _ [79, 80, 2, 3, 81, 55, 56, 82, 83, 84, 85, 86, 87, 88, 89, 90, 91, 92, 93, 62, 63, 64, 35, 65, 94, 95, 96, 97, 98, 99, 100, 101, 102, 103, 104, 157, 158, 141, 142, 143, 144, 145, 159, 160, 161, 162, 163] (by rfl) (by decide +kernel)
set_option maxRecDepth 20000 in
theorem gX11_init_X7_init_n32 : GoodIn wsX11_init (wsX7_init) := ggX11_init_X7_init
set_option maxRecDepth 20000 in
theorem ggX11_init_X9_init : GoodIn wsX11_init wsX9_init := goodIn_r _ [106, 107, 2, 3, 35, 108, 109, 29, 30, 110, 111, 112, 113, 66, 67, 68, 146, 147, 148, 149, 150, 152] (by rfl) (by decide +kernel)
set_option maxRecDepth 20000 in
theorem gX11_init_X9_init_n39 : GoodIn wsX11_init (wsX9_init) := ggX11_init_X9_init
set_option maxRecDepth 20000 in
theorem ggX11_init_X5_init : GoodIn wsX11_init wsX5_init := goodIn_r _ [115, 116, 2, 3, 117, 55, 56, 118, 119, 62, 63, 64, 35, 65, 157, 158, 151] (by rfl) (by decide +kernel)
set_option maxRecDepth 20000 in
theorem gX11_init_X5_init_n46 : GoodIn wsX11_init (wsX5_init) := ggX11_init_X5_init
set_option maxRecDepth 20000 in
theorem ggX11_init_X10_init : GoodIn wsX11_init wsX10_init := goodIn_r _ [67, 68, 2, 3] (by rfl) (by decide +kernel)
set_option maxRecDepth 20000 in
theorem gX11_init_X10_init_n53 : GoodIn wsX11_init (wsX10_init) := ggX11_init_X10_init
theorem dX11_init_0 : decode cX11_init 0 = .ok (.aload_n 0, 1) := by decide +kernel
theorem dX11_init_1 : decode cX11_init 1 = .ok (.invokespecial 1, 3) := by decide +kernel
theorem dX11_init_4 : decode cX11_init 4 = .ok (.aload_n 0, 1) := by decide +kernel
theorem dX11_init_5 : decode cX11_init 5 = .ok (.new 7, 3) := by decide +kernel
theorem dX11_init_8 : decode cX11_init 8 = .ok (.dup, 1) := by decide +kernel
theorem dX11_init_9 : decode cX11_init 9 = .ok (.invokespecial 9, 3) := by decide +kernel
theorem dX11_init_12 : decode cX11_init 12 = .ok (.putfield 10, 3) := by decide +kernel
theorem dX11_init_15 : decode cX11_init 15 = .ok (.aload_n 0, 1) := by decide +kernel
theorem dX11_init_16 : decode cX11_init 16 = .ok (.new 16, 3) := by decide +kernel
theorem dX11_init_19 : decode cX11_init 19 = .ok (.dup, 1) := by decide +kernel
theorem dX11_init_20 : decode cX11_init 20 = .ok (.invokespecial 18, 3) := by decide +kernel
theorem dX11_init_23 : decode cX11_init 23 = .ok (.putfield 19, 3) := by decide +kernel
theorem dX11_init_26 : decode cX11_init 26 = .ok (.aload_n 0, 1) := by decide +kernel
theorem dX11_init_27 : decode cX11_init 27 = .ok (.new 23, 3) := by decide +kernel
theorem dX11_init_30 : decode cX11_init 30 = .ok (.dup, 1) := by decide +kernel
theorem dX11_init_31 : decode cX11_init 31 = .ok (.invokespecial 25, 3) := by decide +kernel
theorem dX11_init_34 : decode cX11_init 34 = .ok (.putfield 26, 3) := by decide +kernel
theorem dX11_init_37 : decode cX11_init 37 = .ok (.aload_n 0, 1) := by decide +kernel
theorem dX11_init_38 : decode cX11_init 38 = .ok (.new 30, 3) := by decide +kernel
theorem dX11_init_41 : decode cX11_init 41 = .ok (.dup, 1) := by decide +kernel
theorem dX11_init_42 : decode cX11_init 42 = .ok (.invokespecial 32, 3) := by decide +kernel
theorem dX11_init_45 : decode cX11_init 45 = .ok (.putfield 33, 3) := by decide +kernel
theorem dX11_init_48 : decode cX11_init 48 = .ok (.aload_n 0, 1) := by decide +kernel
theorem dX11_init_49 : decode cX11_init 49 = .ok (.new 37, 3) := by decide +kernel
theorem dX11_init_52 : decode cX11_init 52 = .ok (.dup, 1) := by decide +kernel
theorem dX11_init_53 : decode cX11_init 53 = .ok (.invokespecial 39, 3) := by decide +kernel
theorem dX11_init_56 : decode cX11_init 56 = .ok (.putfield 40, 3) := by decide +kernel
theorem dX11_init_59 : decode cX11_init 59 = .ok (.aload_n 0, 1) := by decide +kernel
theorem dX11_init_60 : decode cX11_init 60 = .ok (.new 44, 3) := by decide +kernel
theorem dX11_init_63 : decode cX11_init 63 = .ok (.dup, 1) := by decide +kernel
theorem dX11_init_64 : decode cX11_init 64 = .ok (.invokespecial 46, 3) := by decide +kernel
theorem dX11_init_67 : decode cX11_init 67 = .ok (.putfield 47, 3) := by decide +kernel
theorem dX11_init_70 : decode cX11_init 70 = .ok (.aload_n 0, 1) := by decide +kernel
theorem dX11_init_71 : decode cX11_init 71 = .ok (.new 51, 3) := by decide +kernel
theorem dX11_init_74 : decode cX11_init 74 = .ok (.dup, 1) := by decide +kernel
theorem dX11_init_75 : decode cX11_init 75 = .ok (.invokespecial 53, 3) := by decide +kernel
theorem dX11_init_78 : decode cX11_init 78 = .ok (.putfield 54, 3) := by decide +kernel
theorem dX11_init_81 : decode cX11_init 81 = .ok (.return_, 1) := by decide +kernel
theorem dX11_change_0 : decode cX11_change 0 = .ok (.iload_n 1, 1) := by decide +kernel
theorem dX11_change_1 : decode cX11_change 1 = .ok (.iconst 2, 1) := by decide +kernel
theorem dX11_change_2 : decode cX11_change 2 = .ok (.if_icmp .eq 15, 3) := by decide +kernel
theorem dX11_change_5 : decode cX11_change 5 = .ok (.aload_n 0, 1) := by decide +kernel
theorem dX11_change_6 : decode cX11_change 6 = .ok (.getfield 10, 3) := by decide +kernel
theorem dX11_change_9 : decode cX11_change 9 = .ok (.iload_n 1, 1) := by decide +kernel
theorem dX11_change_10 : decode cX11_change 10 = .ok (.iload_n 2, 1) := by decide +kernel
theorem dX11_change_11 : decode cX11_change 11 = .ok (.invokevirtual 58, 3) := by decide +kernel
theorem dX11_change_14 : decode cX11_change 14 = .ok (.ifCond .ne 13, 3) := by decide +kernel
theorem dX11_change_17 : decode cX11_change 17 = .ok (.new 62, 3) := by decide +kernel
theorem dX11_change_20 : decode cX11_change 20 = .ok (.dup, 1) := by decide +kernel
theorem dX11_change_21 : decode cX11_change 21 = .ok (.ldc 64, 2) := by decide +kernel
theorem dX11_change_23 : decode cX11_change 23 = .ok (.invokespecial 66, 3) := by decide +kernel
theorem dX11_change_26 : decode cX11_change 26 = .ok (.athrow, 1) := by decide +kernel
theorem dX11_change_27 : decode cX11_change 27 = .ok (.iload_n 1, 1) := by decide +kernel
theorem dX11_change_28 : decode cX11_change 28 = .ok (.ifCond .ne 22, 3) := by decide +kernel
theorem dX11_change_31 : decode cX11_change 31 = .ok (.iload_n 3, 1) := by decide +kernel
theorem dX11_change_32 : decode cX11_change 32 = .ok (.ifCond .eq 18, 3) := by decide +kernel
theorem dX11_change_35 : decode cX11_change 35 = .ok (.iload_n 3, 1) := by decide +kernel
theorem dX11_change_36 : decode cX11_change 36 = .ok (.iconst 1, 1) := by decide +kernel
theorem dX11_change_37 : decode cX11_change 37 = .ok (.if_icmp .eq 13, 3) := by decide +kernel
theorem dX11_change_40 : decode cX11_change 40 = .ok (.new 62, 3) := by decide +kernel
theorem dX11_change_43 : decode cX11_change 43 = .ok (.dup, 1) := by decide +kernel
theorem dX11_change_44 : decode cX11_change 44 = .ok (.ldc 69, 2) := by decide +kernel
theorem dX11_change_46 : decode cX11_change 46 = .ok (.invokespecial 66, 3) := by decide +kernel
theorem dX11_change_49 : decode cX11_change 49 = .ok (.athrow, 1) := by decide +kernel
theorem dX11_change_50 : decode cX11_change 50 = .ok (.aload_n 0, 1) := by decide +kernel
theorem dX11_change_51 : decode cX11_change 51 = .ok (.getfield 10, 3) := by decide +kernel
theorem dX11_change_54 : decode cX11_change 54 = .ok (.iload_n 1, 1) := by decide +kernel
theorem dX11_change_55 : decode cX11_change 55 = .ok (.iload_n 2, 1) := by decide +kernel
theorem dX11_change_56 : decode cX11_change 56 = .ok (.iload_n 3, 1) := by decide +kernel
theorem dX11_change_57 : decode cX11_change 57 = .ok (.invokevirtual 71, 3) := by decide +kernel
theorem dX11_change_60 : decode cX11_change 60 = .ok (.return_, 1) := by decide +kernel
theorem dX11_point_0 : decode cX11_point 0 = .ok (.aload_n 0, 1) := by decide +kernel
theorem dX11_point_1 : decode cX11_point 1 = .ok (.getfield 10, 3) := by decide +kernel
theorem dX11_point_4 : decode cX11_point 4 = .ok (.iload_n 1, 1) := by decide +kernel
theorem dX11_point_5 : decode cX11_point 5 = .ok (.iload_n 2, 1) := by decide +kernel
theorem dX11_point_6 : decode cX11_point 6 = .ok (.invokevirtual 58, 3) := by decide +kernel
theorem dX11_point_9 : decode cX11_point 9 = .ok (.ifCond .ne 13, 3) := by decide +kernel
theorem dX11_point_12 : decode cX11_point 12 = .ok (.new 62, 3) := by decide +kernel
theorem dX11_point_15 : decode cX11_point 15 = .ok (.dup, 1) := by decide +kernel
theorem dX11_point_16 : decode cX11_point 16 = .ok (.ldc 64, 2) := by decide +kernel
theorem dX11_point_18 : decode cX11_point 18 = .ok (.invokespecial 66, 3) := by decide +kernel
theorem dX11_point_21 : decode cX11_point 21 = .ok (.athrow, 1) := by decide +kernel
theorem dX11_point_22 : decode cX11_point 22 = .ok (.aload_n 0, 1) := by decide +kernel
theorem dX11_point_23 : decode cX11_point 23 = .ok (.getfield 10, 3) := by decide +kernel
theorem dX11_point_26 : decode cX11_point 26 = .ok (.iload_n 1, 1) := by decide +kernel
theorem dX11_point_27 : decode cX11_point 27 = .ok (.iload_n 2, 1) := by decide +kernel
theorem dX11_point_28 : decode cX11_point 28 = .ok (.invokevirtual 75, 3) := by decide +kernel
theorem dX11_point_31 : decode cX11_point 31 = .ok (.ireturn, 1) := by decide +kernel
theorem dX11_events_0 : decode cX11_events 0 = .ok (.iload_n 1, 1) := by decide +kernel
theorem dX11_events_1 : decode cX11_events 1 = .ok (.ifCond .eq 18, 3) := by decide +kernel
theorem dX11_events_4 : decode cX11_events 4 = .ok (.iload_n 1, 1) := by decide +kernel
theorem dX11_events_5 : decode cX11_events 5 = .ok (.iconst 1, 1) := by decide +kernel
theorem dX11_events_6 : decode cX11_events 6 = .ok (.if_icmp .eq 13, 3) := by decide +kernel
theorem dX11_events_9 : decode cX11_events 9 = .ok (.new 62, 3) := by decide +kernel
theorem dX11_events_12 : decode cX11_events 12 = .ok (.dup, 1) := by decide +kernel
theorem dX11_events_13 : decode cX11_events 13 = .ok (.ldc 79, 2) := by decide +kernel
theorem dX11_events_15 : decode cX11_events 15 = .ok (.invokespecial 66, 3) := by decide +kernel
theorem dX11_events_18 : decode cX11_events 18 = .ok (.athrow, 1) := by decide +kernel
theorem dX11_events_19 : decode cX11_events 19 = .ok (.aload_n 0, 1) := by decide +kernel
theorem dX11_events_20 : decode cX11_events 20 = .ok (.getfield 10, 3) := by decide +kernel
theorem dX11_events_23 : decode cX11_events 23 = .ok (.iload_n 1, 1) := by decide +kernel
theorem dX11_events_24 : decode cX11_events 24 = .ok (.invokevirtual 81, 3) := by decide +kernel
theorem dX11_events_27 : decode cX11_events 27 = .ok (.invokevirtual 85, 3) := by decide +kernel
theorem dX11_events_30 : decode cX11_events 30 = .ok (.ireturn, 1) := by decide +kernel
theorem dX11_hear_0 : decode cX11_hear 0 = .ok (.iload_n 3, 1) := by decide +kernel
theorem dX11_hear_1 : decode cX11_hear 1 = .ok (.iconst 1, 1) := by decide +kernel
theorem dX11_hear_2 : decode cX11_hear 2 = .ok (.if_icmp .lt 9, 3) := by decide +kernel
theorem dX11_hear_5 : decode cX11_hear 5 = .ok (.iload_n 3, 1) := by decide +kernel
theorem dX11_hear_6 : decode cX11_hear 6 = .ok (.bipush 8, 2) := by decide +kernel
theorem dX11_hear_8 : decode cX11_hear 8 = .ok (.if_icmp .le 13, 3) := by decide +kernel
theorem dX11_hear_11 : decode cX11_hear 11 = .ok (.new 62, 3) := by decide +kernel
theorem dX11_hear_14 : decode cX11_hear 14 = .ok (.dup, 1) := by decide +kernel
theorem dX11_hear_15 : decode cX11_hear 15 = .ok (.ldc 91, 2) := by decide +kernel
theorem dX11_hear_17 : decode cX11_hear 17 = .ok (.invokespecial 66, 3) := by decide +kernel
theorem dX11_hear_20 : decode cX11_hear 20 = .ok (.athrow, 1) := by decide +kernel
theorem dX11_hear_21 : decode cX11_hear 21 = .ok (.iconst 0, 1) := by decide +kernel
theorem dX11_hear_22 : decode cX11_hear 22 = .ok (.istore 4, 2) := by decide +kernel
theorem dX11_hear_24 : decode cX11_hear 24 = .ok (.iload 4, 2) := by decide +kernel
theorem dX11_hear_26 : decode cX11_hear 26 = .ok (.iload_n 3, 1) := by decide +kernel
theorem dX11_hear_27 : decode cX11_hear 27 = .ok (.if_icmp .ge 122, 3) := by decide +kernel
theorem dX11_hear_30 : decode cX11_hear 30 = .ok (.aload_n 0, 1) := by decide +kernel
theorem dX11_hear_31 : decode cX11_hear 31 = .ok (.getfield 19, 3) := by decide +kernel
theorem dX11_hear_34 : decode cX11_hear 34 = .ok (.lload_n 1, 1) := by decide +kernel
theorem dX11_hear_35 : decode cX11_hear 35 = .ok (.iload_n 3, 1) := by decide +kernel
theorem dX11_hear_36 : decode cX11_hear 36 = .ok (.iload 4, 2) := by decide +kernel
theorem dX11_hear_38 : decode cX11_hear 38 = .ok (.invokestatic 93, 3) := by decide +kernel
theorem dX11_hear_41 : decode cX11_hear 41 = .ok (.invokevirtual 97, 3) := by decide +kernel
theorem dX11_hear_44 : decode cX11_hear 44 = .ok (.iconst 0, 1) := by decide +kernel
theorem dX11_hear_45 : decode cX11_hear 45 = .ok (.istore 5, 2) := by decide +kernel
theorem dX11_hear_47 : decode cX11_hear 47 = .ok (.iload 5, 2) := by decide +kernel
theorem dX11_hear_49 : decode cX11_hear 49 = .ok (.bipush 56, 2) := by decide +kernel
theorem dX11_hear_51 : decode cX11_hear 51 = .ok (.if_icmp .ge 92, 3) := by decide +kernel
theorem dX11_hear_54 : decode cX11_hear 54 = .ok (.aload_n 0, 1) := by decide +kernel
theorem dX11_hear_55 : decode cX11_hear 55 = .ok (.getfield 19, 3) := by decide +kernel
theorem dX11_hear_58 : decode cX11_hear 58 = .ok (.invokevirtual 100, 3) := by decide +kernel
theorem dX11_hear_61 : decode cX11_hear 61 = .ok (.ifCond .eq 82, 3) := by decide +kernel
theorem dX11_hear_64 : decode cX11_hear 64 = .ok (.aload_n 0, 1) := by decide +kernel
theorem dX11_hear_65 : decode cX11_hear 65 = .ok (.getfield 19, 3) := by decide +kernel
theorem dX11_hear_68 : decode cX11_hear 68 = .ok (.invokevirtual 104, 3) := by decide +kernel
theorem dX11_hear_71 : decode cX11_hear 71 = .ok (.ifCond .eq 59, 3) := by decide +kernel
theorem dX11_hear_74 : decode cX11_hear 74 = .ok (.aload_n 0, 1) := by decide +kernel
theorem dX11_hear_75 : decode cX11_hear 75 = .ok (.getfield 26, 3) := by decide +kernel
theorem dX11_hear_78 : decode cX11_hear 78 = .ok (.aload_n 0, 1) := by decide +kernel
theorem dX11_hear_79 : decode cX11_hear 79 = .ok (.getfield 19, 3) := by decide +kernel
theorem dX11_hear_82 : decode cX11_hear 82 = .ok (.invokevirtual 107, 3) := by decide +kernel
theorem dX11_hear_85 : decode cX11_hear 85 = .ok (.ifCond .eq 45, 3) := by decide +kernel
theorem dX11_hear_88 : decode cX11_hear 88 = .ok (.aload_n 0, 1) := by decide +kernel
theorem dX11_hear_89 : decode cX11_hear 89 = .ok (.getfield 33, 3) := by decide +kernel
theorem dX11_hear_92 : decode cX11_hear 92 = .ok (.aload_n 0, 1) := by decide +kernel
theorem dX11_hear_93 : decode cX11_hear 93 = .ok (.getfield 26, 3) := by decide +kernel
theorem dX11_hear_96 : decode cX11_hear 96 = .ok (.invokevirtual 111, 3) := by decide +kernel
theorem dX11_hear_99 : decode cX11_hear 99 = .ok (.aload_n 0, 1) := by decide +kernel
theorem dX11_hear_100 : decode cX11_hear 100 = .ok (.getfield 10, 3) := by decide +kernel
theorem dX11_hear_103 : decode cX11_hear 103 = .ok (.invokevirtual 115, 3) := by decide +kernel
theorem dX11_hear_106 : decode cX11_hear 106 = .ok (.ifCond .eq 24, 3) := by decide +kernel
theorem dX11_hear_109 : decode cX11_hear 109 = .ok (.aload_n 0, 1) := by decide +kernel
theorem dX11_hear_110 : decode cX11_hear 110 = .ok (.getfield 40, 3) := by decide +kernel
theorem dX11_hear_113 : decode cX11_hear 113 = .ok (.aload_n 0, 1) := by decide +kernel
theorem dX11_hear_114 : decode cX11_hear 114 = .ok (.getfield 33, 3) := by decide +kernel
theorem dX11_hear_117 : decode cX11_hear 117 = .ok (.invokevirtual 119, 3) := by decide +kernel
theorem dX11_hear_120 : decode cX11_hear 120 = .ok (.aload_n 0, 1) := by decide +kernel
theorem dX11_hear_121 : decode cX11_hear 121 = .ok (.getfield 26, 3) := by decide +kernel
theorem dX11_hear_124 : decode cX11_hear 124 = .ok (.invokevirtual 122, 3) := by decide +kernel
theorem dX11_hear_127 : decode cX11_hear 127 = .ok (.invokevirtual 125, 3) := by decide +kernel
theorem dX11_hear_130 : decode cX11_hear 130 = .ok (.aload_n 0, 1) := by decide +kernel
theorem dX11_hear_131 : decode cX11_hear 131 = .ok (.getfield 19, 3) := by decide +kernel
theorem dX11_hear_134 : decode cX11_hear 134 = .ok (.invokevirtual 129, 3) := by decide +kernel
theorem dX11_hear_137 : decode cX11_hear 137 = .ok (.iinc 5 1, 3) := by decide +kernel
theorem dX11_hear_140 : decode cX11_hear 140 = .ok (.goto (-93), 3) := by decide +kernel
theorem dX11_hear_143 : decode cX11_hear 143 = .ok (.iinc 4 1, 3) := by decide +kernel
theorem dX11_hear_146 : decode cX11_hear 146 = .ok (.goto (-122), 3) := by decide +kernel
theorem dX11_hear_149 : decode cX11_hear 149 = .ok (.aload_n 0, 1) := by decide +kernel
theorem dX11_hear_150 : decode cX11_hear 150 = .ok (.getfield 19, 3) := by decide +kernel
theorem dX11_hear_153 : decode cX11_hear 153 = .ok (.invokevirtual 132, 3) := by decide +kernel
theorem dX11_hear_156 : decode cX11_hear 156 = .ok (.ireturn, 1) := by decide +kernel
theorem dX11_pass_0 : decode cX11_pass 0 = .ok (.iload_n 1, 1) := by decide +kernel
theorem dX11_pass_1 : decode cX11_pass 1 = .ok (.iconst 1, 1) := by decide +kernel
theorem dX11_pass_2 : decode cX11_pass 2 = .ok (.if_icmp .lt 9, 3) := by decide +kernel
theorem dX11_pass_5 : decode cX11_pass 5 = .ok (.iload_n 1, 1) := by decide +kernel
theorem dX11_pass_6 : decode cX11_pass 6 = .ok (.bipush 100, 2) := by decide +kernel
theorem dX11_pass_8 : decode cX11_pass 8 = .ok (.if_icmp .le 13, 3) := by decide +kernel
theorem dX11_pass_11 : decode cX11_pass 11 = .ok (.new 62, 3) := by decide +kernel
theorem dX11_pass_14 : decode cX11_pass 14 = .ok (.dup, 1) := by decide +kernel
theorem dX11_pass_15 : decode cX11_pass 15 = .ok (.ldc 135, 2) := by decide +kernel
theorem dX11_pass_17 : decode cX11_pass 17 = .ok (.invokespecial 66, 3) := by decide +kernel
theorem dX11_pass_20 : decode cX11_pass 20 = .ok (.athrow, 1) := by decide +kernel
theorem dX11_pass_21 : decode cX11_pass 21 = .ok (.aload_n 0, 1) := by decide +kernel
theorem dX11_pass_22 : decode cX11_pass 22 = .ok (.getfield 33, 3) := by decide +kernel
theorem dX11_pass_25 : decode cX11_pass 25 = .ok (.iload_n 1, 1) := by decide +kernel
theorem dX11_pass_26 : decode cX11_pass 26 = .ok (.invokevirtual 137, 3) := by decide +kernel
theorem dX11_pass_29 : decode cX11_pass 29 = .ok (.return_, 1) := by decide +kernel
theorem dX11_sent_0 : decode cX11_sent 0 = .ok (.iload_n 1, 1) := by decide +kernel
theorem dX11_sent_1 : decode cX11_sent 1 = .ok (.iconst (-1), 1) := by decide +kernel
theorem dX11_sent_2 : decode cX11_sent 2 = .ok (.if_icmp .ne 11, 3) := by decide +kernel
theorem dX11_sent_5 : decode cX11_sent 5 = .ok (.aload_n 0, 1) := by decide +kernel
theorem dX11_sent_6 : decode cX11_sent 6 = .ok (.getfield 40, 3) := by decide +kernel
theorem dX11_sent_9 : decode cX11_sent 9 = .ok (.invokevirtual 140, 3) := by decide +kernel
theorem dX11_sent_12 : decode cX11_sent 12 = .ok (.ireturn, 1) := by decide +kernel
theorem dX11_sent_13 : decode cX11_sent 13 = .ok (.aload_n 0, 1) := by decide +kernel
theorem dX11_sent_14 : decode cX11_sent 14 = .ok (.getfield 40, 3) := by decide +kernel
theorem dX11_sent_17 : decode cX11_sent 17 = .ok (.iload_n 1, 1) := by decide +kernel
theorem dX11_sent_18 : decode cX11_sent 18 = .ok (.invokevirtual 143, 3) := by decide +kernel
theorem dX11_sent_21 : decode cX11_sent 21 = .ok (.ifCond .ne 13, 3) := by decide +kernel
theorem dX11_sent_24 : decode cX11_sent 24 = .ok (.new 147, 3) := by decide +kernel
theorem dX11_sent_27 : decode cX11_sent 27 = .ok (.dup, 1) := by decide +kernel
theorem dX11_sent_28 : decode cX11_sent 28 = .ok (.ldc 149, 2) := by decide +kernel
theorem dX11_sent_30 : decode cX11_sent 30 = .ok (.invokespecial 151, 3) := by decide +kernel
theorem dX11_sent_33 : decode cX11_sent 33 = .ok (.athrow, 1) := by decide +kernel
theorem dX11_sent_34 : decode cX11_sent 34 = .ok (.aload_n 0, 1) := by decide +kernel
theorem dX11_sent_35 : decode cX11_sent 35 = .ok (.getfield 40, 3) := by decide +kernel
theorem dX11_sent_38 : decode cX11_sent 38 = .ok (.iload_n 1, 1) := by decide +kernel
theorem dX11_sent_39 : decode cX11_sent 39 = .ok (.invokevirtual 152, 3) := by decide +kernel
theorem dX11_sent_42 : decode cX11_sent 42 = .ok (.ireturn, 1) := by decide +kernel
theorem dX11_sum_0 : decode cX11_sum 0 = .ok (.iload_n 3, 1) := by decide +kernel
theorem dX11_sum_1 : decode cX11_sum 1 = .ok (.ifCond .lt 9, 3) := by decide +kernel
theorem dX11_sum_4 : decode cX11_sum 4 = .ok (.iload_n 3, 1) := by decide +kernel
theorem dX11_sum_5 : decode cX11_sum 5 = .ok (.bipush 8, 2) := by decide +kernel
theorem dX11_sum_7 : decode cX11_sum 7 = .ok (.if_icmp .le 13, 3) := by decide +kernel
theorem dX11_sum_10 : decode cX11_sum 10 = .ok (.new 62, 3) := by decide +kernel
theorem dX11_sum_13 : decode cX11_sum 13 = .ok (.dup, 1) := by decide +kernel
theorem dX11_sum_14 : decode cX11_sum 14 = .ok (.ldc 156, 2) := by decide +kernel
theorem dX11_sum_16 : decode cX11_sum 16 = .ok (.invokespecial 66, 3) := by decide +kernel
theorem dX11_sum_19 : decode cX11_sum 19 = .ok (.athrow, 1) := by decide +kernel
theorem dX11_sum_20 : decode cX11_sum 20 = .ok (.aload_n 0, 1) := by decide +kernel
theorem dX11_sum_21 : decode cX11_sum 21 = .ok (.getfield 54, 3) := by decide +kernel
theorem dX11_sum_24 : decode cX11_sum 24 = .ok (.invokevirtual 158, 3) := by decide +kernel
theorem dX11_sum_27 : decode cX11_sum 27 = .ok (.iconst 0, 1) := by decide +kernel
theorem dX11_sum_28 : decode cX11_sum 28 = .ok (.istore 4, 2) := by decide +kernel
theorem dX11_sum_30 : decode cX11_sum 30 = .ok (.iload 4, 2) := by decide +kernel
theorem dX11_sum_32 : decode cX11_sum 32 = .ok (.iload_n 3, 1) := by decide +kernel
theorem dX11_sum_33 : decode cX11_sum 33 = .ok (.if_icmp .ge 23, 3) := by decide +kernel
theorem dX11_sum_36 : decode cX11_sum 36 = .ok (.aload_n 0, 1) := by decide +kernel
theorem dX11_sum_37 : decode cX11_sum 37 = .ok (.getfield 54, 3) := by decide +kernel
theorem dX11_sum_40 : decode cX11_sum 40 = .ok (.lload_n 1, 1) := by decide +kernel
theorem dX11_sum_41 : decode cX11_sum 41 = .ok (.iload_n 3, 1) := by decide +kernel
theorem dX11_sum_42 : decode cX11_sum 42 = .ok (.iload 4, 2) := by decide +kernel
theorem dX11_sum_44 : decode cX11_sum 44 = .ok (.invokestatic 93, 3) := by decide +kernel
theorem dX11_sum_47 : decode cX11_sum 47 = .ok (.invokevirtual 161, 3) := by decide +kernel
theorem dX11_sum_50 : decode cX11_sum 50 = .ok (.iinc 4 1, 3) := by decide +kernel
theorem dX11_sum_53 : decode cX11_sum 53 = .ok (.goto (-23), 3) := by decide +kernel
theorem dX11_sum_56 : decode cX11_sum 56 = .ok (.aload_n 0, 1) := by decide +kernel
theorem dX11_sum_57 : decode cX11_sum 57 = .ok (.getfield 54, 3) := by decide +kernel
theorem dX11_sum_60 : decode cX11_sum 60 = .ok (.invokevirtual 164, 3) := by decide +kernel
theorem dX11_sum_63 : decode cX11_sum 63 = .ok (.ireturn, 1) := by decide +kernel
theorem dX11_ask_0 : decode cX11_ask 0 = .ok (.iload_n 3, 1) := by decide +kernel
theorem dX11_ask_1 : decode cX11_ask 1 = .ok (.iconst 1, 1) := by decide +kernel
theorem dX11_ask_2 : decode cX11_ask 2 = .ok (.if_icmp .lt 9, 3) := by decide +kernel
theorem dX11_ask_5 : decode cX11_ask 5 = .ok (.iload_n 3, 1) := by decide +kernel
theorem dX11_ask_6 : decode cX11_ask 6 = .ok (.bipush 8, 2) := by decide +kernel
theorem dX11_ask_8 : decode cX11_ask 8 = .ok (.if_icmp .le 13, 3) := by decide +kernel
theorem dX11_ask_11 : decode cX11_ask 11 = .ok (.new 62, 3) := by decide +kernel
theorem dX11_ask_14 : decode cX11_ask 14 = .ok (.dup, 1) := by decide +kernel
theorem dX11_ask_15 : decode cX11_ask 15 = .ok (.ldc 91, 2) := by decide +kernel
theorem dX11_ask_17 : decode cX11_ask 17 = .ok (.invokespecial 66, 3) := by decide +kernel
theorem dX11_ask_20 : decode cX11_ask 20 = .ok (.athrow, 1) := by decide +kernel
theorem dX11_ask_21 : decode cX11_ask 21 = .ok (.aload_n 0, 1) := by decide +kernel
theorem dX11_ask_22 : decode cX11_ask 22 = .ok (.getfield 47, 3) := by decide +kernel
theorem dX11_ask_25 : decode cX11_ask 25 = .ok (.lload_n 1, 1) := by decide +kernel
theorem dX11_ask_26 : decode cX11_ask 26 = .ok (.iload_n 3, 1) := by decide +kernel
theorem dX11_ask_27 : decode cX11_ask 27 = .ok (.aload_n 0, 1) := by decide +kernel
theorem dX11_ask_28 : decode cX11_ask 28 = .ok (.getfield 10, 3) := by decide +kernel
theorem dX11_ask_31 : decode cX11_ask 31 = .ok (.invokevirtual 167, 3) := by decide +kernel
theorem dX11_ask_34 : decode cX11_ask 34 = .ok (.aload_n 0, 1) := by decide +kernel
theorem dX11_ask_35 : decode cX11_ask 35 = .ok (.getfield 47, 3) := by decide +kernel
theorem dX11_ask_38 : decode cX11_ask 38 = .ok (.invokevirtual 170, 3) := by decide +kernel
theorem dX11_ask_41 : decode cX11_ask 41 = .ok (.invokevirtual 172, 3) := by decide +kernel
theorem dX11_ask_44 : decode cX11_ask 44 = .ok (.ireturn, 1) := by decide +kernel
theorem dX11_told_0 : decode cX11_told 0 = .ok (.iload_n 1, 1) := by decide +kernel
theorem dX11_told_1 : decode cX11_told 1 = .ok (.ifCond .lt 17, 3) := by decide +kernel
theorem dX11_told_4 : decode cX11_told 4 = .ok (.iload_n 1, 1) := by decide +kernel
theorem dX11_told_5 : decode cX11_told 5 = .ok (.aload_n 0, 1) := by decide +kernel
theorem dX11_told_6 : decode cX11_told 6 = .ok (.getfield 47, 3) := by decide +kernel
theorem dX11_told_9 : decode cX11_told 9 = .ok (.invokevirtual 170, 3) := by decide +kernel
theorem dX11_told_12 : decode cX11_told 12 = .ok (.invokevirtual 172, 3) := by decide +kernel
theorem dX11_told_15 : decode cX11_told 15 = .ok (.if_icmp .lt 13, 3) := by decide +kernel
theorem dX11_told_18 : decode cX11_told 18 = .ok (.new 147, 3) := by decide +kernel
theorem dX11_told_21 : decode cX11_told 21 = .ok (.dup, 1) := by decide +kernel
theorem dX11_told_22 : decode cX11_told 22 = .ok (.ldc 175, 2) := by decide +kernel
theorem dX11_told_24 : decode cX11_told 24 = .ok (.invokespecial 151, 3) := by decide +kernel
theorem dX11_told_27 : decode cX11_told 27 = .ok (.athrow, 1) := by decide +kernel
theorem dX11_told_28 : decode cX11_told 28 = .ok (.aload_n 0, 1) := by decide +kernel
theorem dX11_told_29 : decode cX11_told 29 = .ok (.getfield 47, 3) := by decide +kernel
theorem dX11_told_32 : decode cX11_told 32 = .ok (.invokevirtual 170, 3) := by decide +kernel
theorem dX11_told_35 : decode cX11_told 35 = .ok (.iload_n 1, 1) := by decide +kernel
theorem dX11_told_36 : decode cX11_told 36 = .ok (.invokevirtual 177, 3) := by decide +kernel
theorem dX11_told_39 : decode cX11_told 39 = .ok (.ireturn, 1) := by decide +kernel
theorem dX11_byteOf_0 : decode cX11_byteOf 0 = .ok (.lload_n 0, 1) := by decide +kernel
theorem dX11_byteOf_1 : decode cX11_byteOf 1 = .ok (.bipush 8, 2) := by decide +kernel
theorem dX11_byteOf_3 : decode cX11_byteOf 3 = .ok (.iload_n 2, 1) := by decide +kernel
theorem dX11_byteOf_4 : decode cX11_byteOf 4 = .ok (.iconst 1, 1) := by decide +kernel
theorem dX11_byteOf_5 : decode cX11_byteOf 5 = .ok (.isub, 1) := by decide +kernel
theorem dX11_byteOf_6 : decode cX11_byteOf 6 = .ok (.iload_n 3, 1) := by decide +kernel
theorem dX11_byteOf_7 : decode cX11_byteOf 7 = .ok (.isub, 1) := by decide +kernel
theorem dX11_byteOf_8 : decode cX11_byteOf 8 = .ok (.imul, 1) := by decide +kernel
theorem dX11_byteOf_9 : decode cX11_byteOf 9 = .ok (.lushr, 1) := by decide +kernel
theorem dX11_byteOf_10 : decode cX11_byteOf 10 = .ok (.l2i, 1) := by decide +kernel
theorem dX11_byteOf_11 : decode cX11_byteOf 11 = .ok (.sipush 255, 3) := by decide +kernel
theorem dX11_byteOf_14 : decode cX11_byteOf 14 = .ok (.iand, 1) := by decide +kernel
theorem dX11_byteOf_15 : decode cX11_byteOf 15 = .ok (.ireturn, 1) := by decide +kernel

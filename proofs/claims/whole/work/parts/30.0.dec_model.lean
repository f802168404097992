theorem dX12_init_0 : decode cX12_init 0 = .ok (.aload_n 0, 1) := by decide +kernel
theorem dX12_init_1 : decode cX12_init 1 = .ok (.invokespecial 1, 3) := by decide +kernel
theorem dX12_init_4 : decode cX12_init 4 = .ok (.aload_n 0, 1) := by decide +kernel
theorem dX12_init_5 : decode cX12_init 5 = .ok (.bipush 16, 2) := by decide +kernel
theorem dX12_init_7 : decode cX12_init 7 = .ok (.newarray .int, 2) := by decide +kernel
theorem dX12_init_9 : decode cX12_init 9 = .ok (.putfield 7, 3) := by decide +kernel
theorem dX12_init_12 : decode cX12_init 12 = .ok (.aload_n 0, 1) := by decide +kernel
theorem dX12_init_13 : decode cX12_init 13 = .ok (.bipush 12, 2) := by decide +kernel
theorem dX12_init_15 : decode cX12_init 15 = .ok (.newarray .int, 2) := by decide +kernel
theorem dX12_init_17 : decode cX12_init 17 = .ok (.putfield 13, 3) := by decide +kernel
theorem dX12_init_20 : decode cX12_init 20 = .ok (.aload_n 0, 1) := by decide +kernel
theorem dX12_init_21 : decode cX12_init 21 = .ok (.bipush 12, 2) := by decide +kernel
theorem dX12_init_23 : decode cX12_init 23 = .ok (.newarray .int, 2) := by decide +kernel
theorem dX12_init_25 : decode cX12_init 25 = .ok (.putfield 16, 3) := by decide +kernel
theorem dX12_init_28 : decode cX12_init 28 = .ok (.aload_n 0, 1) := by decide +kernel
theorem dX12_init_29 : decode cX12_init 29 = .ok (.iconst 2, 1) := by decide +kernel
theorem dX12_init_30 : decode cX12_init 30 = .ok (.newarray .int, 2) := by decide +kernel
theorem dX12_init_32 : decode cX12_init 32 = .ok (.putfield 19, 3) := by decide +kernel
theorem dX12_init_35 : decode cX12_init 35 = .ok (.aload_n 0, 1) := by decide +kernel
theorem dX12_init_36 : decode cX12_init 36 = .ok (.iconst 2, 1) := by decide +kernel
theorem dX12_init_37 : decode cX12_init 37 = .ok (.newarray .int, 2) := by decide +kernel
theorem dX12_init_39 : decode cX12_init 39 = .ok (.putfield 22, 3) := by decide +kernel
theorem dX12_init_42 : decode cX12_init 42 = .ok (.aload_n 0, 1) := by decide +kernel
theorem dX12_init_43 : decode cX12_init 43 = .ok (.iconst 2, 1) := by decide +kernel
theorem dX12_init_44 : decode cX12_init 44 = .ok (.newarray .boolean, 2) := by decide +kernel
theorem dX12_init_46 : decode cX12_init 46 = .ok (.putfield 25, 3) := by decide +kernel
theorem dX12_init_49 : decode cX12_init 49 = .ok (.aload_n 0, 1) := by decide +kernel
theorem dX12_init_50 : decode cX12_init 50 = .ok (.iconst 1, 1) := by decide +kernel
theorem dX12_init_51 : decode cX12_init 51 = .ok (.putfield 29, 3) := by decide +kernel
theorem dX12_init_54 : decode cX12_init 54 = .ok (.aload_n 0, 1) := by decide +kernel
theorem dX12_init_55 : decode cX12_init 55 = .ok (.iconst 4, 1) := by decide +kernel
theorem dX12_init_56 : decode cX12_init 56 = .ok (.newarray .int, 2) := by decide +kernel
theorem dX12_init_58 : decode cX12_init 58 = .ok (.putfield 33, 3) := by decide +kernel
theorem dX12_init_61 : decode cX12_init 61 = .ok (.aload_n 0, 1) := by decide +kernel
theorem dX12_init_62 : decode cX12_init 62 = .ok (.bipush 80, 2) := by decide +kernel
theorem dX12_init_64 : decode cX12_init 64 = .ok (.newarray .int, 2) := by decide +kernel
theorem dX12_init_66 : decode cX12_init 66 = .ok (.putfield 36, 3) := by decide +kernel
theorem dX12_init_69 : decode cX12_init 69 = .ok (.aload_n 0, 1) := by decide +kernel
theorem dX12_init_70 : decode cX12_init 70 = .ok (.bipush 80, 2) := by decide +kernel
theorem dX12_init_72 : decode cX12_init 72 = .ok (.newarray .int, 2) := by decide +kernel
theorem dX12_init_74 : decode cX12_init 74 = .ok (.putfield 39, 3) := by decide +kernel
theorem dX12_init_77 : decode cX12_init 77 = .ok (.aload_n 0, 1) := by decide +kernel
theorem dX12_init_78 : decode cX12_init 78 = .ok (.iconst (-1), 1) := by decide +kernel
theorem dX12_init_79 : decode cX12_init 79 = .ok (.putfield 42, 3) := by decide +kernel
theorem dX12_init_82 : decode cX12_init 82 = .ok (.aload_n 0, 1) := by decide +kernel
theorem dX12_init_83 : decode cX12_init 83 = .ok (.iconst (-1), 1) := by decide +kernel
theorem dX12_init_84 : decode cX12_init 84 = .ok (.putfield 46, 3) := by decide +kernel
theorem dX12_init_87 : decode cX12_init 87 = .ok (.aload_n 0, 1) := by decide +kernel
theorem dX12_init_88 : decode cX12_init 88 = .ok (.bipush 80, 2) := by decide +kernel
theorem dX12_init_90 : decode cX12_init 90 = .ok (.newarray .int, 2) := by decide +kernel
theorem dX12_init_92 : decode cX12_init 92 = .ok (.putfield 49, 3) := by decide +kernel
theorem dX12_init_95 : decode cX12_init 95 = .ok (.aload_n 0, 1) := by decide +kernel
theorem dX12_init_96 : decode cX12_init 96 = .ok (.sipush 256, 3) := by decide +kernel
theorem dX12_init_99 : decode cX12_init 99 = .ok (.newarray .int, 2) := by decide +kernel
theorem dX12_init_101 : decode cX12_init 101 = .ok (.putfield 52, 3) := by decide +kernel
theorem dX12_init_104 : decode cX12_init 104 = .ok (.aload_n 0, 1) := by decide +kernel
theorem dX12_init_105 : decode cX12_init 105 = .ok (.bipush 16, 2) := by decide +kernel
theorem dX12_init_107 : decode cX12_init 107 = .ok (.newarray .int, 2) := by decide +kernel
theorem dX12_init_109 : decode cX12_init 109 = .ok (.putfield 55, 3) := by decide +kernel
theorem dX12_init_112 : decode cX12_init 112 = .ok (.return_, 1) := by decide +kernel
theorem dX12_thrown_0 : decode cX12_thrown 0 = .ok (.aload_n 0, 1) := by decide +kernel
theorem dX12_thrown_1 : decode cX12_thrown 1 = .ok (.getfield 58, 3) := by decide +kernel
theorem dX12_thrown_4 : decode cX12_thrown 4 = .ok (.ireturn, 1) := by decide +kernel
theorem dX12_throwing_0 : decode cX12_throwing 0 = .ok (.aload_n 0, 1) := by decide +kernel
theorem dX12_throwing_1 : decode cX12_throwing 1 = .ok (.iload_n 1, 1) := by decide +kernel
theorem dX12_throwing_2 : decode cX12_throwing 2 = .ok (.ifCond .eq 7, 3) := by decide +kernel
theorem dX12_throwing_5 : decode cX12_throwing 5 = .ok (.iconst 1, 1) := by decide +kernel
theorem dX12_throwing_6 : decode cX12_throwing 6 = .ok (.goto 4, 3) := by decide +kernel
theorem dX12_throwing_9 : decode cX12_throwing 9 = .ok (.iconst 0, 1) := by decide +kernel
theorem dX12_throwing_10 : decode cX12_throwing 10 = .ok (.putfield 58, 3) := by decide +kernel
theorem dX12_throwing_13 : decode cX12_throwing 13 = .ok (.iload_n 1, 1) := by decide +kernel
theorem dX12_throwing_14 : decode cX12_throwing 14 = .ok (.ireturn, 1) := by decide +kernel
theorem dX12_out_0 : decode cX12_out 0 = .ok (.iload_n 0, 1) := by decide +kernel
theorem dX12_out_1 : decode cX12_out 1 = .ok (.ifCond .lt 8, 3) := by decide +kernel
theorem dX12_out_4 : decode cX12_out 4 = .ok (.iload_n 0, 1) := by decide +kernel
theorem dX12_out_5 : decode cX12_out 5 = .ok (.iload_n 1, 1) := by decide +kernel
theorem dX12_out_6 : decode cX12_out 6 = .ok (.if_icmp .lt 7, 3) := by decide +kernel
theorem dX12_out_9 : decode cX12_out 9 = .ok (.iconst 1, 1) := by decide +kernel
theorem dX12_out_10 : decode cX12_out 10 = .ok (.goto 4, 3) := by decide +kernel
theorem dX12_out_13 : decode cX12_out 13 = .ok (.iconst 0, 1) := by decide +kernel
theorem dX12_out_14 : decode cX12_out 14 = .ok (.ireturn, 1) := by decide +kernel
theorem dX12_forget_0 : decode cX12_forget 0 = .ok (.iload_n 2, 1) := by decide +kernel
theorem dX12_forget_1 : decode cX12_forget 1 = .ok (.istore_n 3, 1) := by decide +kernel
theorem dX12_forget_2 : decode cX12_forget 2 = .ok (.iload_n 3, 1) := by decide +kernel
theorem dX12_forget_3 : decode cX12_forget 3 = .ok (.aload_n 0, 1) := by decide +kernel
theorem dX12_forget_4 : decode cX12_forget 4 = .ok (.getfield 19, 3) := by decide +kernel
theorem dX12_forget_7 : decode cX12_forget 7 = .ok (.iload_n 1, 1) := by decide +kernel
theorem dX12_forget_8 : decode cX12_forget 8 = .ok (.iaload, 1) := by decide +kernel
theorem dX12_forget_9 : decode cX12_forget 9 = .ok (.if_icmp .ge 57, 3) := by decide +kernel
theorem dX12_forget_12 : decode cX12_forget 12 = .ok (.aload_n 0, 1) := by decide +kernel
theorem dX12_forget_13 : decode cX12_forget 13 = .ok (.getfield 13, 3) := by decide +kernel
theorem dX12_forget_16 : decode cX12_forget 16 = .ok (.bipush 6, 2) := by decide +kernel
theorem dX12_forget_18 : decode cX12_forget 18 = .ok (.iload_n 1, 1) := by decide +kernel
theorem dX12_forget_19 : decode cX12_forget 19 = .ok (.imul, 1) := by decide +kernel
theorem dX12_forget_20 : decode cX12_forget 20 = .ok (.iload_n 3, 1) := by decide +kernel
theorem dX12_forget_21 : decode cX12_forget 21 = .ok (.iadd, 1) := by decide +kernel
theorem dX12_forget_22 : decode cX12_forget 22 = .ok (.iload_n 2, 1) := by decide +kernel
theorem dX12_forget_23 : decode cX12_forget 23 = .ok (.isub, 1) := by decide +kernel
theorem dX12_forget_24 : decode cX12_forget 24 = .ok (.aload_n 0, 1) := by decide +kernel
theorem dX12_forget_25 : decode cX12_forget 25 = .ok (.getfield 13, 3) := by decide +kernel
theorem dX12_forget_28 : decode cX12_forget 28 = .ok (.bipush 6, 2) := by decide +kernel
theorem dX12_forget_30 : decode cX12_forget 30 = .ok (.iload_n 1, 1) := by decide +kernel
theorem dX12_forget_31 : decode cX12_forget 31 = .ok (.imul, 1) := by decide +kernel
theorem dX12_forget_32 : decode cX12_forget 32 = .ok (.iload_n 3, 1) := by decide +kernel
theorem dX12_forget_33 : decode cX12_forget 33 = .ok (.iadd, 1) := by decide +kernel
theorem dX12_forget_34 : decode cX12_forget 34 = .ok (.iaload, 1) := by decide +kernel
theorem dX12_forget_35 : decode cX12_forget 35 = .ok (.iastore, 1) := by decide +kernel
theorem dX12_forget_36 : decode cX12_forget 36 = .ok (.aload_n 0, 1) := by decide +kernel
theorem dX12_forget_37 : decode cX12_forget 37 = .ok (.getfield 16, 3) := by decide +kernel
theorem dX12_forget_40 : decode cX12_forget 40 = .ok (.bipush 6, 2) := by decide +kernel
theorem dX12_forget_42 : decode cX12_forget 42 = .ok (.iload_n 1, 1) := by decide +kernel
theorem dX12_forget_43 : decode cX12_forget 43 = .ok (.imul, 1) := by decide +kernel
theorem dX12_forget_44 : decode cX12_forget 44 = .ok (.iload_n 3, 1) := by decide +kernel
theorem dX12_forget_45 : decode cX12_forget 45 = .ok (.iadd, 1) := by decide +kernel
theorem dX12_forget_46 : decode cX12_forget 46 = .ok (.iload_n 2, 1) := by decide +kernel
theorem dX12_forget_47 : decode cX12_forget 47 = .ok (.isub, 1) := by decide +kernel
theorem dX12_forget_48 : decode cX12_forget 48 = .ok (.aload_n 0, 1) := by decide +kernel
theorem dX12_forget_49 : decode cX12_forget 49 = .ok (.getfield 16, 3) := by decide +kernel
theorem dX12_forget_52 : decode cX12_forget 52 = .ok (.bipush 6, 2) := by decide +kernel
theorem dX12_forget_54 : decode cX12_forget 54 = .ok (.iload_n 1, 1) := by decide +kernel
theorem dX12_forget_55 : decode cX12_forget 55 = .ok (.imul, 1) := by decide +kernel
theorem dX12_forget_56 : decode cX12_forget 56 = .ok (.iload_n 3, 1) := by decide +kernel
theorem dX12_forget_57 : decode cX12_forget 57 = .ok (.iadd, 1) := by decide +kernel
theorem dX12_forget_58 : decode cX12_forget 58 = .ok (.iaload, 1) := by decide +kernel
theorem dX12_forget_59 : decode cX12_forget 59 = .ok (.iastore, 1) := by decide +kernel
theorem dX12_forget_60 : decode cX12_forget 60 = .ok (.iinc 3 1, 3) := by decide +kernel
theorem dX12_forget_63 : decode cX12_forget 63 = .ok (.goto (-61), 3) := by decide +kernel
theorem dX12_forget_66 : decode cX12_forget 66 = .ok (.aload_n 0, 1) := by decide +kernel
theorem dX12_forget_67 : decode cX12_forget 67 = .ok (.getfield 19, 3) := by decide +kernel
theorem dX12_forget_70 : decode cX12_forget 70 = .ok (.iload_n 1, 1) := by decide +kernel
theorem dX12_forget_71 : decode cX12_forget 71 = .ok (.aload_n 0, 1) := by decide +kernel
theorem dX12_forget_72 : decode cX12_forget 72 = .ok (.getfield 19, 3) := by decide +kernel
theorem dX12_forget_75 : decode cX12_forget 75 = .ok (.iload_n 1, 1) := by decide +kernel
theorem dX12_forget_76 : decode cX12_forget 76 = .ok (.iaload, 1) := by decide +kernel
theorem dX12_forget_77 : decode cX12_forget 77 = .ok (.iload_n 2, 1) := by decide +kernel
theorem dX12_forget_78 : decode cX12_forget 78 = .ok (.isub, 1) := by decide +kernel
theorem dX12_forget_79 : decode cX12_forget 79 = .ok (.iastore, 1) := by decide +kernel
theorem dX12_forget_80 : decode cX12_forget 80 = .ok (.aload_n 0, 1) := by decide +kernel
theorem dX12_forget_81 : decode cX12_forget 81 = .ok (.getfield 22, 3) := by decide +kernel
theorem dX12_forget_84 : decode cX12_forget 84 = .ok (.iload_n 1, 1) := by decide +kernel
theorem dX12_forget_85 : decode cX12_forget 85 = .ok (.aload_n 0, 1) := by decide +kernel
theorem dX12_forget_86 : decode cX12_forget 86 = .ok (.getfield 22, 3) := by decide +kernel
theorem dX12_forget_89 : decode cX12_forget 89 = .ok (.iload_n 1, 1) := by decide +kernel
theorem dX12_forget_90 : decode cX12_forget 90 = .ok (.iaload, 1) := by decide +kernel
theorem dX12_forget_91 : decode cX12_forget 91 = .ok (.iload_n 2, 1) := by decide +kernel
theorem dX12_forget_92 : decode cX12_forget 92 = .ok (.if_icmp .le 14, 3) := by decide +kernel
theorem dX12_forget_95 : decode cX12_forget 95 = .ok (.aload_n 0, 1) := by decide +kernel
theorem dX12_forget_96 : decode cX12_forget 96 = .ok (.getfield 22, 3) := by decide +kernel
theorem dX12_forget_99 : decode cX12_forget 99 = .ok (.iload_n 1, 1) := by decide +kernel
theorem dX12_forget_100 : decode cX12_forget 100 = .ok (.iaload, 1) := by decide +kernel
theorem dX12_forget_101 : decode cX12_forget 101 = .ok (.iload_n 2, 1) := by decide +kernel
theorem dX12_forget_102 : decode cX12_forget 102 = .ok (.isub, 1) := by decide +kernel
theorem dX12_forget_103 : decode cX12_forget 103 = .ok (.goto 4, 3) := by decide +kernel
theorem dX12_forget_106 : decode cX12_forget 106 = .ok (.iconst 0, 1) := by decide +kernel
theorem dX12_forget_107 : decode cX12_forget 107 = .ok (.iastore, 1) := by decide +kernel
theorem dX12_forget_108 : decode cX12_forget 108 = .ok (.return_, 1) := by decide +kernel
theorem dX12_change_0 : decode cX12_change 0 = .ok (.aload_n 0, 1) := by decide +kernel
theorem dX12_change_1 : decode cX12_change 1 = .ok (.iload_n 1, 1) := by decide +kernel
theorem dX12_change_2 : decode cX12_change 2 = .ok (.iconst 2, 1) := by decide +kernel
theorem dX12_change_3 : decode cX12_change 3 = .ok (.invokestatic 61, 3) := by decide +kernel
theorem dX12_change_6 : decode cX12_change 6 = .ok (.ifCond .ne 24, 3) := by decide +kernel
theorem dX12_change_9 : decode cX12_change 9 = .ok (.iload_n 2, 1) := by decide +kernel
theorem dX12_change_10 : decode cX12_change 10 = .ok (.bipush 8, 2) := by decide +kernel
theorem dX12_change_12 : decode cX12_change 12 = .ok (.invokestatic 61, 3) := by decide +kernel
theorem dX12_change_15 : decode cX12_change 15 = .ok (.ifCond .ne 15, 3) := by decide +kernel
theorem dX12_change_18 : decode cX12_change 18 = .ok (.iload_n 1, 1) := by decide +kernel
theorem dX12_change_19 : decode cX12_change 19 = .ok (.ifCond .ne 15, 3) := by decide +kernel
theorem dX12_change_22 : decode cX12_change 22 = .ok (.iload_n 3, 1) := by decide +kernel
theorem dX12_change_23 : decode cX12_change 23 = .ok (.iconst 2, 1) := by decide +kernel
theorem dX12_change_24 : decode cX12_change 24 = .ok (.invokestatic 61, 3) := by decide +kernel
theorem dX12_change_27 : decode cX12_change 27 = .ok (.ifCond .eq 7, 3) := by decide +kernel
theorem dX12_change_30 : decode cX12_change 30 = .ok (.iconst 1, 1) := by decide +kernel
theorem dX12_change_31 : decode cX12_change 31 = .ok (.goto 4, 3) := by decide +kernel
theorem dX12_change_34 : decode cX12_change 34 = .ok (.iconst 0, 1) := by decide +kernel
theorem dX12_change_35 : decode cX12_change 35 = .ok (.invokevirtual 65, 3) := by decide +kernel
theorem dX12_change_38 : decode cX12_change 38 = .ok (.ifCond .eq 4, 3) := by decide +kernel
theorem dX12_change_41 : decode cX12_change 41 = .ok (.return_, 1) := by decide +kernel
theorem dX12_change_42 : decode cX12_change 42 = .ok (.aload_n 0, 1) := by decide +kernel
theorem dX12_change_43 : decode cX12_change 43 = .ok (.getfield 7, 3) := by decide +kernel
theorem dX12_change_46 : decode cX12_change 46 = .ok (.bipush 8, 2) := by decide +kernel
theorem dX12_change_48 : decode cX12_change 48 = .ok (.iload_n 1, 1) := by decide +kernel
theorem dX12_change_49 : decode cX12_change 49 = .ok (.imul, 1) := by decide +kernel
theorem dX12_change_50 : decode cX12_change 50 = .ok (.iload_n 2, 1) := by decide +kernel
theorem dX12_change_51 : decode cX12_change 51 = .ok (.iadd, 1) := by decide +kernel
theorem dX12_change_52 : decode cX12_change 52 = .ok (.iaload, 1) := by decide +kernel
theorem dX12_change_53 : decode cX12_change 53 = .ok (.iload_n 3, 1) := by decide +kernel
theorem dX12_change_54 : decode cX12_change 54 = .ok (.if_icmp .ne 4, 3) := by decide +kernel
theorem dX12_change_57 : decode cX12_change 57 = .ok (.return_, 1) := by decide +kernel
theorem dX12_change_58 : decode cX12_change 58 = .ok (.aload_n 0, 1) := by decide +kernel
theorem dX12_change_59 : decode cX12_change 59 = .ok (.getfield 7, 3) := by decide +kernel
theorem dX12_change_62 : decode cX12_change 62 = .ok (.bipush 8, 2) := by decide +kernel
theorem dX12_change_64 : decode cX12_change 64 = .ok (.iload_n 1, 1) := by decide +kernel
theorem dX12_change_65 : decode cX12_change 65 = .ok (.imul, 1) := by decide +kernel
theorem dX12_change_66 : decode cX12_change 66 = .ok (.iload_n 2, 1) := by decide +kernel
theorem dX12_change_67 : decode cX12_change 67 = .ok (.iadd, 1) := by decide +kernel
theorem dX12_change_68 : decode cX12_change 68 = .ok (.iload_n 3, 1) := by decide +kernel
theorem dX12_change_69 : decode cX12_change 69 = .ok (.iastore, 1) := by decide +kernel
theorem dX12_change_70 : decode cX12_change 70 = .ok (.aload_n 0, 1) := by decide +kernel
theorem dX12_change_71 : decode cX12_change 71 = .ok (.getfield 19, 3) := by decide +kernel
theorem dX12_change_74 : decode cX12_change 74 = .ok (.iload_n 1, 1) := by decide +kernel
theorem dX12_change_75 : decode cX12_change 75 = .ok (.iaload, 1) := by decide +kernel
theorem dX12_change_76 : decode cX12_change 76 = .ok (.bipush 6, 2) := by decide +kernel
theorem dX12_change_78 : decode cX12_change 78 = .ok (.if_icmp .ne 16, 3) := by decide +kernel
theorem dX12_change_81 : decode cX12_change 81 = .ok (.aload_n 0, 1) := by decide +kernel
theorem dX12_change_82 : decode cX12_change 82 = .ok (.iload_n 1, 1) := by decide +kernel
theorem dX12_change_83 : decode cX12_change 83 = .ok (.iconst 1, 1) := by decide +kernel
theorem dX12_change_84 : decode cX12_change 84 = .ok (.invokevirtual 69, 3) := by decide +kernel
theorem dX12_change_87 : decode cX12_change 87 = .ok (.aload_n 0, 1) := by decide +kernel
theorem dX12_change_88 : decode cX12_change 88 = .ok (.getfield 25, 3) := by decide +kernel
theorem dX12_change_91 : decode cX12_change 91 = .ok (.iload_n 1, 1) := by decide +kernel
theorem dX12_change_92 : decode cX12_change 92 = .ok (.iconst 1, 1) := by decide +kernel
theorem dX12_change_93 : decode cX12_change 93 = .ok (.bastore, 1) := by decide +kernel
theorem dX12_change_94 : decode cX12_change 94 = .ok (.aload_n 0, 1) := by decide +kernel
theorem dX12_change_95 : decode cX12_change 95 = .ok (.getfield 13, 3) := by decide +kernel
theorem dX12_change_98 : decode cX12_change 98 = .ok (.bipush 6, 2) := by decide +kernel
theorem dX12_change_100 : decode cX12_change 100 = .ok (.iload_n 1, 1) := by decide +kernel
theorem dX12_change_101 : decode cX12_change 101 = .ok (.imul, 1) := by decide +kernel
theorem dX12_change_102 : decode cX12_change 102 = .ok (.aload_n 0, 1) := by decide +kernel
theorem dX12_change_103 : decode cX12_change 103 = .ok (.getfield 19, 3) := by decide +kernel
theorem dX12_change_106 : decode cX12_change 106 = .ok (.iload_n 1, 1) := by decide +kernel
theorem dX12_change_107 : decode cX12_change 107 = .ok (.iaload, 1) := by decide +kernel
theorem dX12_change_108 : decode cX12_change 108 = .ok (.iadd, 1) := by decide +kernel
theorem dX12_change_109 : decode cX12_change 109 = .ok (.iload_n 2, 1) := by decide +kernel
theorem dX12_change_110 : decode cX12_change 110 = .ok (.iastore, 1) := by decide +kernel
theorem dX12_change_111 : decode cX12_change 111 = .ok (.aload_n 0, 1) := by decide +kernel
theorem dX12_change_112 : decode cX12_change 112 = .ok (.getfield 16, 3) := by decide +kernel
theorem dX12_change_115 : decode cX12_change 115 = .ok (.bipush 6, 2) := by decide +kernel
theorem dX12_change_117 : decode cX12_change 117 = .ok (.iload_n 1, 1) := by decide +kernel
theorem dX12_change_118 : decode cX12_change 118 = .ok (.imul, 1) := by decide +kernel
theorem dX12_change_119 : decode cX12_change 119 = .ok (.aload_n 0, 1) := by decide +kernel
theorem dX12_change_120 : decode cX12_change 120 = .ok (.getfield 19, 3) := by decide +kernel
theorem dX12_change_123 : decode cX12_change 123 = .ok (.iload_n 1, 1) := by decide +kernel
theorem dX12_change_124 : decode cX12_change 124 = .ok (.iaload, 1) := by decide +kernel
theorem dX12_change_125 : decode cX12_change 125 = .ok (.iadd, 1) := by decide +kernel
theorem dX12_change_126 : decode cX12_change 126 = .ok (.iload_n 3, 1) := by decide +kernel
theorem dX12_change_127 : decode cX12_change 127 = .ok (.iastore, 1) := by decide +kernel
theorem dX12_change_128 : decode cX12_change 128 = .ok (.aload_n 0, 1) := by decide +kernel
theorem dX12_change_129 : decode cX12_change 129 = .ok (.getfield 19, 3) := by decide +kernel
theorem dX12_change_132 : decode cX12_change 132 = .ok (.iload_n 1, 1) := by decide +kernel
theorem dX12_change_133 : decode cX12_change 133 = .ok (.dup2, 1) := by decide +kernel
theorem dX12_change_134 : decode cX12_change 134 = .ok (.iaload, 1) := by decide +kernel
theorem dX12_change_135 : decode cX12_change 135 = .ok (.iconst 1, 1) := by decide +kernel
theorem dX12_change_136 : decode cX12_change 136 = .ok (.iadd, 1) := by decide +kernel
theorem dX12_change_137 : decode cX12_change 137 = .ok (.iastore, 1) := by decide +kernel
theorem dX12_change_138 : decode cX12_change 138 = .ok (.return_, 1) := by decide +kernel
theorem dX12_point_0 : decode cX12_point 0 = .ok (.aload_n 0, 1) := by decide +kernel
theorem dX12_point_1 : decode cX12_point 1 = .ok (.iload_n 1, 1) := by decide +kernel
theorem dX12_point_2 : decode cX12_point 2 = .ok (.iconst 3, 1) := by decide +kernel
theorem dX12_point_3 : decode cX12_point 3 = .ok (.invokestatic 61, 3) := by decide +kernel
theorem dX12_point_6 : decode cX12_point 6 = .ok (.ifCond .ne 21, 3) := by decide +kernel
theorem dX12_point_9 : decode cX12_point 9 = .ok (.iload_n 2, 1) := by decide +kernel
theorem dX12_point_10 : decode cX12_point 10 = .ok (.iload_n 1, 1) := by decide +kernel
theorem dX12_point_11 : decode cX12_point 11 = .ok (.iconst 2, 1) := by decide +kernel
theorem dX12_point_12 : decode cX12_point 12 = .ok (.if_icmp .ne 7, 3) := by decide +kernel
theorem dX12_point_15 : decode cX12_point 15 = .ok (.iconst 4, 1) := by decide +kernel
theorem dX12_point_16 : decode cX12_point 16 = .ok (.goto 5, 3) := by decide +kernel
theorem dX12_point_19 : decode cX12_point 19 = .ok (.bipush 8, 2) := by decide +kernel
theorem dX12_point_21 : decode cX12_point 21 = .ok (.invokestatic 61, 3) := by decide +kernel
theorem dX12_point_24 : decode cX12_point 24 = .ok (.ifCond .eq 7, 3) := by decide +kernel
theorem dX12_point_27 : decode cX12_point 27 = .ok (.iconst 1, 1) := by decide +kernel
theorem dX12_point_28 : decode cX12_point 28 = .ok (.goto 4, 3) := by decide +kernel
theorem dX12_point_31 : decode cX12_point 31 = .ok (.iconst 0, 1) := by decide +kernel
theorem dX12_point_32 : decode cX12_point 32 = .ok (.invokevirtual 65, 3) := by decide +kernel
theorem dX12_point_35 : decode cX12_point 35 = .ok (.ifCond .eq 5, 3) := by decide +kernel
theorem dX12_point_38 : decode cX12_point 38 = .ok (.iconst 0, 1) := by decide +kernel
theorem dX12_point_39 : decode cX12_point 39 = .ok (.ireturn, 1) := by decide +kernel
theorem dX12_point_40 : decode cX12_point 40 = .ok (.iload_n 1, 1) := by decide +kernel
theorem dX12_point_41 : decode cX12_point 41 = .ok (.iconst 2, 1) := by decide +kernel
theorem dX12_point_42 : decode cX12_point 42 = .ok (.if_icmp .ne 12, 3) := by decide +kernel
theorem dX12_point_45 : decode cX12_point 45 = .ok (.aload_n 0, 1) := by decide +kernel
theorem dX12_point_46 : decode cX12_point 46 = .ok (.getfield 33, 3) := by decide +kernel
theorem dX12_point_49 : decode cX12_point 49 = .ok (.iload_n 2, 1) := by decide +kernel
theorem dX12_point_50 : decode cX12_point 50 = .ok (.iaload, 1) := by decide +kernel
theorem dX12_point_51 : decode cX12_point 51 = .ok (.goto 14, 3) := by decide +kernel
theorem dX12_point_54 : decode cX12_point 54 = .ok (.aload_n 0, 1) := by decide +kernel
theorem dX12_point_55 : decode cX12_point 55 = .ok (.getfield 7, 3) := by decide +kernel
theorem dX12_point_58 : decode cX12_point 58 = .ok (.bipush 8, 2) := by decide +kernel
theorem dX12_point_60 : decode cX12_point 60 = .ok (.iload_n 1, 1) := by decide +kernel
theorem dX12_point_61 : decode cX12_point 61 = .ok (.imul, 1) := by decide +kernel
theorem dX12_point_62 : decode cX12_point 62 = .ok (.iload_n 2, 1) := by decide +kernel
theorem dX12_point_63 : decode cX12_point 63 = .ok (.iadd, 1) := by decide +kernel
theorem dX12_point_64 : decode cX12_point 64 = .ok (.iaload, 1) := by decide +kernel
theorem dX12_point_65 : decode cX12_point 65 = .ok (.ireturn, 1) := by decide +kernel
theorem dX12_events_0 : decode cX12_events 0 = .ok (.aload_n 0, 1) := by decide +kernel
theorem dX12_events_1 : decode cX12_events 1 = .ok (.iload_n 1, 1) := by decide +kernel
theorem dX12_events_2 : decode cX12_events 2 = .ok (.iconst 2, 1) := by decide +kernel
theorem dX12_events_3 : decode cX12_events 3 = .ok (.invokestatic 61, 3) := by decide +kernel
theorem dX12_events_6 : decode cX12_events 6 = .ok (.invokevirtual 65, 3) := by decide +kernel
theorem dX12_events_9 : decode cX12_events 9 = .ok (.ifCond .eq 7, 3) := by decide +kernel
theorem dX12_events_12 : decode cX12_events 12 = .ok (.iconst 0, 1) := by decide +kernel
theorem dX12_events_13 : decode cX12_events 13 = .ok (.goto 9, 3) := by decide +kernel
theorem dX12_events_16 : decode cX12_events 16 = .ok (.aload_n 0, 1) := by decide +kernel
theorem dX12_events_17 : decode cX12_events 17 = .ok (.getfield 19, 3) := by decide +kernel
theorem dX12_events_20 : decode cX12_events 20 = .ok (.iload_n 1, 1) := by decide +kernel
theorem dX12_events_21 : decode cX12_events 21 = .ok (.iaload, 1) := by decide +kernel
theorem dX12_events_22 : decode cX12_events 22 = .ok (.ireturn, 1) := by decide +kernel
theorem dX12_pass_0 : decode cX12_pass 0 = .ok (.aload_n 0, 1) := by decide +kernel
theorem dX12_pass_1 : decode cX12_pass 1 = .ok (.iload_n 1, 1) := by decide +kernel
theorem dX12_pass_2 : decode cX12_pass 2 = .ok (.iconst 1, 1) := by decide +kernel
theorem dX12_pass_3 : decode cX12_pass 3 = .ok (.isub, 1) := by decide +kernel
theorem dX12_pass_4 : decode cX12_pass 4 = .ok (.bipush 100, 2) := by decide +kernel
theorem dX12_pass_6 : decode cX12_pass 6 = .ok (.invokestatic 61, 3) := by decide +kernel
theorem dX12_pass_9 : decode cX12_pass 9 = .ok (.invokevirtual 65, 3) := by decide +kernel
theorem dX12_pass_12 : decode cX12_pass 12 = .ok (.ifCond .eq 4, 3) := by decide +kernel
theorem dX12_pass_15 : decode cX12_pass 15 = .ok (.return_, 1) := by decide +kernel
theorem dX12_pass_16 : decode cX12_pass 16 = .ok (.aload_n 0, 1) := by decide +kernel
theorem dX12_pass_17 : decode cX12_pass 17 = .ok (.aload_n 0, 1) := by decide +kernel
theorem dX12_pass_18 : decode cX12_pass 18 = .ok (.getfield 73, 3) := by decide +kernel
theorem dX12_pass_21 : decode cX12_pass 21 = .ok (.iload_n 1, 1) := by decide +kernel
theorem dX12_pass_22 : decode cX12_pass 22 = .ok (.iadd, 1) := by decide +kernel
theorem dX12_pass_23 : decode cX12_pass 23 = .ok (.putfield 73, 3) := by decide +kernel
theorem dX12_pass_26 : decode cX12_pass 26 = .ok (.return_, 1) := by decide +kernel
theorem dX12_mixed_0 : decode cX12_mixed 0 = .ok (.iload_n 0, 1) := by decide +kernel
theorem dX12_mixed_1 : decode cX12_mixed 1 = .ok (.iload_n 1, 1) := by decide +kernel
theorem dX12_mixed_2 : decode cX12_mixed 2 = .ok (.ixor, 1) := by decide +kernel
theorem dX12_mixed_3 : decode cX12_mixed 3 = .ok (.istore_n 2, 1) := by decide +kernel
theorem dX12_mixed_4 : decode cX12_mixed 4 = .ok (.iconst 0, 1) := by decide +kernel
theorem dX12_mixed_5 : decode cX12_mixed 5 = .ok (.istore_n 3, 1) := by decide +kernel
theorem dX12_mixed_6 : decode cX12_mixed 6 = .ok (.iload_n 3, 1) := by decide +kernel
theorem dX12_mixed_7 : decode cX12_mixed 7 = .ok (.bipush 8, 2) := by decide +kernel
theorem dX12_mixed_9 : decode cX12_mixed 9 = .ok (.if_icmp .ge 29, 3) := by decide +kernel
theorem dX12_mixed_12 : decode cX12_mixed 12 = .ok (.iload_n 2, 1) := by decide +kernel
theorem dX12_mixed_13 : decode cX12_mixed 13 = .ok (.iconst 2, 1) := by decide +kernel
theorem dX12_mixed_14 : decode cX12_mixed 14 = .ok (.irem, 1) := by decide +kernel
theorem dX12_mixed_15 : decode cX12_mixed 15 = .ok (.iconst 1, 1) := by decide +kernel
theorem dX12_mixed_16 : decode cX12_mixed 16 = .ok (.if_icmp .ne 12, 3) := by decide +kernel
theorem dX12_mixed_19 : decode cX12_mixed 19 = .ok (.iload_n 2, 1) := by decide +kernel
theorem dX12_mixed_20 : decode cX12_mixed 20 = .ok (.iconst 2, 1) := by decide +kernel
theorem dX12_mixed_21 : decode cX12_mixed 21 = .ok (.idiv, 1) := by decide +kernel
theorem dX12_mixed_22 : decode cX12_mixed 22 = .ok (.ldc 76, 2) := by decide +kernel
theorem dX12_mixed_24 : decode cX12_mixed 24 = .ok (.ixor, 1) := by decide +kernel
theorem dX12_mixed_25 : decode cX12_mixed 25 = .ok (.goto 6, 3) := by decide +kernel
theorem dX12_mixed_28 : decode cX12_mixed 28 = .ok (.iload_n 2, 1) := by decide +kernel
theorem dX12_mixed_29 : decode cX12_mixed 29 = .ok (.iconst 2, 1) := by decide +kernel
theorem dX12_mixed_30 : decode cX12_mixed 30 = .ok (.idiv, 1) := by decide +kernel
theorem dX12_mixed_31 : decode cX12_mixed 31 = .ok (.istore_n 2, 1) := by decide +kernel
theorem dX12_mixed_32 : decode cX12_mixed 32 = .ok (.iinc 3 1, 3) := by decide +kernel
theorem dX12_mixed_35 : decode cX12_mixed 35 = .ok (.goto (-29), 3) := by decide +kernel
theorem dX12_mixed_38 : decode cX12_mixed 38 = .ok (.iload_n 2, 1) := by decide +kernel
theorem dX12_mixed_39 : decode cX12_mixed 39 = .ok (.ireturn, 1) := by decide +kernel
theorem dX12_sum_0 : decode cX12_sum 0 = .ok (.aload_n 0, 1) := by decide +kernel
theorem dX12_sum_1 : decode cX12_sum 1 = .ok (.iload_n 3, 1) := by decide +kernel
theorem dX12_sum_2 : decode cX12_sum 2 = .ok (.ifCond .lt 9, 3) := by decide +kernel
theorem dX12_sum_5 : decode cX12_sum 5 = .ok (.iload_n 3, 1) := by decide +kernel
theorem dX12_sum_6 : decode cX12_sum 6 = .ok (.bipush 8, 2) := by decide +kernel
theorem dX12_sum_8 : decode cX12_sum 8 = .ok (.if_icmp .le 7, 3) := by decide +kernel
theorem dX12_sum_11 : decode cX12_sum 11 = .ok (.iconst 1, 1) := by decide +kernel
theorem dX12_sum_12 : decode cX12_sum 12 = .ok (.goto 4, 3) := by decide +kernel
theorem dX12_sum_15 : decode cX12_sum 15 = .ok (.iconst 0, 1) := by decide +kernel
theorem dX12_sum_16 : decode cX12_sum 16 = .ok (.invokevirtual 65, 3) := by decide +kernel
theorem dX12_sum_19 : decode cX12_sum 19 = .ok (.ifCond .eq 5, 3) := by decide +kernel
theorem dX12_sum_22 : decode cX12_sum 22 = .ok (.iconst 0, 1) := by decide +kernel
theorem dX12_sum_23 : decode cX12_sum 23 = .ok (.ireturn, 1) := by decide +kernel
theorem dX12_sum_24 : decode cX12_sum 24 = .ok (.iconst 0, 1) := by decide +kernel
theorem dX12_sum_25 : decode cX12_sum 25 = .ok (.istore 4, 2) := by decide +kernel
theorem dX12_sum_27 : decode cX12_sum 27 = .ok (.iload_n 3, 1) := by decide +kernel
theorem dX12_sum_28 : decode cX12_sum 28 = .ok (.iconst 1, 1) := by decide +kernel
theorem dX12_sum_29 : decode cX12_sum 29 = .ok (.isub, 1) := by decide +kernel
theorem dX12_sum_30 : decode cX12_sum 30 = .ok (.istore 5, 2) := by decide +kernel
theorem dX12_sum_32 : decode cX12_sum 32 = .ok (.iload 5, 2) := by decide +kernel
theorem dX12_sum_34 : decode cX12_sum 34 = .ok (.ifCond .lt 28, 3) := by decide +kernel
theorem dX12_sum_37 : decode cX12_sum 37 = .ok (.iload 4, 2) := by decide +kernel
theorem dX12_sum_39 : decode cX12_sum 39 = .ok (.lload_n 1, 1) := by decide +kernel
theorem dX12_sum_40 : decode cX12_sum 40 = .ok (.bipush 8, 2) := by decide +kernel
theorem dX12_sum_42 : decode cX12_sum 42 = .ok (.iload 5, 2) := by decide +kernel
theorem dX12_sum_44 : decode cX12_sum 44 = .ok (.imul, 1) := by decide +kernel
theorem dX12_sum_45 : decode cX12_sum 45 = .ok (.lshr, 1) := by decide +kernel
theorem dX12_sum_46 : decode cX12_sum 46 = .ok (.ldc2_w 77, 3) := by decide +kernel
theorem dX12_sum_49 : decode cX12_sum 49 = .ok (.land, 1) := by decide +kernel
theorem dX12_sum_50 : decode cX12_sum 50 = .ok (.l2i, 1) := by decide +kernel
theorem dX12_sum_51 : decode cX12_sum 51 = .ok (.invokestatic 79, 3) := by decide +kernel
theorem dX12_sum_54 : decode cX12_sum 54 = .ok (.istore 4, 2) := by decide +kernel
theorem dX12_sum_56 : decode cX12_sum 56 = .ok (.iinc 5 (-1), 3) := by decide +kernel
theorem dX12_sum_59 : decode cX12_sum 59 = .ok (.goto (-27), 3) := by decide +kernel
theorem dX12_sum_62 : decode cX12_sum 62 = .ok (.ldc 83, 2) := by decide +kernel
theorem dX12_sum_64 : decode cX12_sum 64 = .ok (.iload 4, 2) := by decide +kernel
theorem dX12_sum_66 : decode cX12_sum 66 = .ok (.isub, 1) := by decide +kernel
theorem dX12_sum_67 : decode cX12_sum 67 = .ok (.ireturn, 1) := by decide +kernel
theorem dX12_isWrong_0 : decode cX12_isWrong 0 = .ok (.iload_n 1, 1) := by decide +kernel
theorem dX12_isWrong_1 : decode cX12_isWrong 1 = .ok (.iload_n 2, 1) := by decide +kernel
theorem dX12_isWrong_2 : decode cX12_isWrong 2 = .ok (.iadd, 1) := by decide +kernel
theorem dX12_isWrong_3 : decode cX12_isWrong 3 = .ok (.iconst 2, 1) := by decide +kernel
theorem dX12_isWrong_4 : decode cX12_isWrong 4 = .ok (.iadd, 1) := by decide +kernel
theorem dX12_isWrong_5 : decode cX12_isWrong 5 = .ok (.aload_n 0, 1) := by decide +kernel
theorem dX12_isWrong_6 : decode cX12_isWrong 6 = .ok (.getfield 84, 3) := by decide +kernel
theorem dX12_isWrong_9 : decode cX12_isWrong 9 = .ok (.if_icmp .le 5, 3) := by decide +kernel
theorem dX12_isWrong_12 : decode cX12_isWrong 12 = .ok (.iconst 0, 1) := by decide +kernel
theorem dX12_isWrong_13 : decode cX12_isWrong 13 = .ok (.ireturn, 1) := by decide +kernel
theorem dX12_isWrong_14 : decode cX12_isWrong 14 = .ok (.iconst 0, 1) := by decide +kernel
theorem dX12_isWrong_15 : decode cX12_isWrong 15 = .ok (.istore_n 3, 1) := by decide +kernel
theorem dX12_isWrong_16 : decode cX12_isWrong 16 = .ok (.iconst 0, 1) := by decide +kernel
theorem dX12_isWrong_17 : decode cX12_isWrong 17 = .ok (.istore 4, 2) := by decide +kernel
theorem dX12_isWrong_19 : decode cX12_isWrong 19 = .ok (.iload 4, 2) := by decide +kernel
theorem dX12_isWrong_21 : decode cX12_isWrong 21 = .ok (.iload_n 2, 1) := by decide +kernel
theorem dX12_isWrong_22 : decode cX12_isWrong 22 = .ok (.if_icmp .ge 23, 3) := by decide +kernel
theorem dX12_isWrong_25 : decode cX12_isWrong 25 = .ok (.iload_n 3, 1) := by decide +kernel
theorem dX12_isWrong_26 : decode cX12_isWrong 26 = .ok (.aload_n 0, 1) := by decide +kernel
theorem dX12_isWrong_27 : decode cX12_isWrong 27 = .ok (.getfield 36, 3) := by decide +kernel
theorem dX12_isWrong_30 : decode cX12_isWrong 30 = .ok (.iload_n 1, 1) := by decide +kernel
theorem dX12_isWrong_31 : decode cX12_isWrong 31 = .ok (.iload 4, 2) := by decide +kernel
theorem dX12_isWrong_33 : decode cX12_isWrong 33 = .ok (.iadd, 1) := by decide +kernel
theorem dX12_isWrong_34 : decode cX12_isWrong 34 = .ok (.iaload, 1) := by decide +kernel
theorem dX12_isWrong_35 : decode cX12_isWrong 35 = .ok (.invokestatic 79, 3) := by decide +kernel
theorem dX12_isWrong_38 : decode cX12_isWrong 38 = .ok (.istore_n 3, 1) := by decide +kernel
theorem dX12_isWrong_39 : decode cX12_isWrong 39 = .ok (.iinc 4 1, 3) := by decide +kernel
theorem dX12_isWrong_42 : decode cX12_isWrong 42 = .ok (.goto (-23), 3) := by decide +kernel
theorem dX12_isWrong_45 : decode cX12_isWrong 45 = .ok (.aload_n 0, 1) := by decide +kernel
theorem dX12_isWrong_46 : decode cX12_isWrong 46 = .ok (.getfield 36, 3) := by decide +kernel
theorem dX12_isWrong_49 : decode cX12_isWrong 49 = .ok (.iload_n 1, 1) := by decide +kernel
theorem dX12_isWrong_50 : decode cX12_isWrong 50 = .ok (.iload_n 2, 1) := by decide +kernel
theorem dX12_isWrong_51 : decode cX12_isWrong 51 = .ok (.iadd, 1) := by decide +kernel
theorem dX12_isWrong_52 : decode cX12_isWrong 52 = .ok (.iaload, 1) := by decide +kernel
theorem dX12_isWrong_53 : decode cX12_isWrong 53 = .ok (.sipush 256, 3) := by decide +kernel
theorem dX12_isWrong_56 : decode cX12_isWrong 56 = .ok (.aload_n 0, 1) := by decide +kernel
theorem dX12_isWrong_57 : decode cX12_isWrong 57 = .ok (.getfield 36, 3) := by decide +kernel
theorem dX12_isWrong_60 : decode cX12_isWrong 60 = .ok (.iload_n 1, 1) := by decide +kernel
theorem dX12_isWrong_61 : decode cX12_isWrong 61 = .ok (.iload_n 2, 1) := by decide +kernel
theorem dX12_isWrong_62 : decode cX12_isWrong 62 = .ok (.iadd, 1) := by decide +kernel
theorem dX12_isWrong_63 : decode cX12_isWrong 63 = .ok (.iconst 1, 1) := by decide +kernel
theorem dX12_isWrong_64 : decode cX12_isWrong 64 = .ok (.iadd, 1) := by decide +kernel
theorem dX12_isWrong_65 : decode cX12_isWrong 65 = .ok (.iaload, 1) := by decide +kernel
theorem dX12_isWrong_66 : decode cX12_isWrong 66 = .ok (.imul, 1) := by decide +kernel
theorem dX12_isWrong_67 : decode cX12_isWrong 67 = .ok (.iadd, 1) := by decide +kernel
theorem dX12_isWrong_68 : decode cX12_isWrong 68 = .ok (.ldc 83, 2) := by decide +kernel
theorem dX12_isWrong_70 : decode cX12_isWrong 70 = .ok (.iload_n 3, 1) := by decide +kernel
theorem dX12_isWrong_71 : decode cX12_isWrong 71 = .ok (.isub, 1) := by decide +kernel
theorem dX12_isWrong_72 : decode cX12_isWrong 72 = .ok (.if_icmp .eq 7, 3) := by decide +kernel
theorem dX12_isWrong_75 : decode cX12_isWrong 75 = .ok (.iconst 1, 1) := by decide +kernel
theorem dX12_isWrong_76 : decode cX12_isWrong 76 = .ok (.goto 4, 3) := by decide +kernel
theorem dX12_isWrong_79 : decode cX12_isWrong 79 = .ok (.iconst 0, 1) := by decide +kernel
theorem dX12_isWrong_80 : decode cX12_isWrong 80 = .ok (.ireturn, 1) := by decide +kernel
theorem dX12_isSpoilt_0 : decode cX12_isSpoilt 0 = .ok (.aload_n 0, 1) := by decide +kernel
theorem dX12_isSpoilt_1 : decode cX12_isSpoilt 1 = .ok (.getfield 84, 3) := by decide +kernel
theorem dX12_isSpoilt_4 : decode cX12_isSpoilt 4 = .ok (.ifCond .le 13, 3) := by decide +kernel
theorem dX12_isSpoilt_7 : decode cX12_isSpoilt 7 = .ok (.aload_n 0, 1) := by decide +kernel
theorem dX12_isSpoilt_8 : decode cX12_isSpoilt 8 = .ok (.getfield 36, 3) := by decide +kernel
theorem dX12_isSpoilt_11 : decode cX12_isSpoilt 11 = .ok (.iconst 0, 1) := by decide +kernel
theorem dX12_isSpoilt_12 : decode cX12_isSpoilt 12 = .ok (.iaload, 1) := by decide +kernel
theorem dX12_isSpoilt_13 : decode cX12_isSpoilt 13 = .ok (.iconst 5, 1) := by decide +kernel
theorem dX12_isSpoilt_14 : decode cX12_isSpoilt 14 = .ok (.if_icmp .ne 47, 3) := by decide +kernel
theorem dX12_isSpoilt_17 : decode cX12_isSpoilt 17 = .ok (.aload_n 0, 1) := by decide +kernel
theorem dX12_isSpoilt_18 : decode cX12_isSpoilt 18 = .ok (.getfield 84, 3) := by decide +kernel
theorem dX12_isSpoilt_21 : decode cX12_isSpoilt 21 = .ok (.iconst 1, 1) := by decide +kernel
theorem dX12_isSpoilt_22 : decode cX12_isSpoilt 22 = .ok (.if_icmp .le 14, 3) := by decide +kernel
theorem dX12_isSpoilt_25 : decode cX12_isSpoilt 25 = .ok (.aload_n 0, 1) := by decide +kernel
theorem dX12_isSpoilt_26 : decode cX12_isSpoilt 26 = .ok (.getfield 36, 3) := by decide +kernel
theorem dX12_isSpoilt_29 : decode cX12_isSpoilt 29 = .ok (.iconst 1, 1) := by decide +kernel
theorem dX12_isSpoilt_30 : decode cX12_isSpoilt 30 = .ok (.iaload, 1) := by decide +kernel
theorem dX12_isSpoilt_31 : decode cX12_isSpoilt 31 = .ok (.bipush 100, 2) := by decide +kernel
theorem dX12_isSpoilt_33 : decode cX12_isSpoilt 33 = .ok (.if_icmp .ne 28, 3) := by decide +kernel
theorem dX12_isSpoilt_36 : decode cX12_isSpoilt 36 = .ok (.aload_n 0, 1) := by decide +kernel
theorem dX12_isSpoilt_37 : decode cX12_isSpoilt 37 = .ok (.getfield 84, 3) := by decide +kernel
theorem dX12_isSpoilt_40 : decode cX12_isSpoilt 40 = .ok (.iconst 2, 1) := by decide +kernel
theorem dX12_isSpoilt_41 : decode cX12_isSpoilt 41 = .ok (.if_icmp .le 24, 3) := by decide +kernel
theorem dX12_isSpoilt_44 : decode cX12_isSpoilt 44 = .ok (.aload_n 0, 1) := by decide +kernel
theorem dX12_isSpoilt_45 : decode cX12_isSpoilt 45 = .ok (.getfield 36, 3) := by decide +kernel
theorem dX12_isSpoilt_48 : decode cX12_isSpoilt 48 = .ok (.iconst 2, 1) := by decide +kernel
theorem dX12_isSpoilt_49 : decode cX12_isSpoilt 49 = .ok (.iaload, 1) := by decide +kernel
theorem dX12_isSpoilt_50 : decode cX12_isSpoilt 50 = .ok (.bipush 6, 2) := by decide +kernel
theorem dX12_isSpoilt_52 : decode cX12_isSpoilt 52 = .ok (.isub, 1) := by decide +kernel
theorem dX12_isSpoilt_53 : decode cX12_isSpoilt 53 = .ok (.bipush 40, 2) := by decide +kernel
theorem dX12_isSpoilt_55 : decode cX12_isSpoilt 55 = .ok (.invokestatic 61, 3) := by decide +kernel
theorem dX12_isSpoilt_58 : decode cX12_isSpoilt 58 = .ok (.ifCond .eq 7, 3) := by decide +kernel
theorem dX12_isSpoilt_61 : decode cX12_isSpoilt 61 = .ok (.iconst 1, 1) := by decide +kernel
theorem dX12_isSpoilt_62 : decode cX12_isSpoilt 62 = .ok (.goto 4, 3) := by decide +kernel
theorem dX12_isSpoilt_65 : decode cX12_isSpoilt 65 = .ok (.iconst 0, 1) := by decide +kernel
theorem dX12_isSpoilt_66 : decode cX12_isSpoilt 66 = .ok (.istore_n 1, 1) := by decide +kernel
theorem dX12_isSpoilt_67 : decode cX12_isSpoilt 67 = .ok (.iload_n 1, 1) := by decide +kernel
theorem dX12_isSpoilt_68 : decode cX12_isSpoilt 68 = .ok (.ifCond .ne 11, 3) := by decide +kernel
theorem dX12_isSpoilt_71 : decode cX12_isSpoilt 71 = .ok (.aload_n 0, 1) := by decide +kernel
theorem dX12_isSpoilt_72 : decode cX12_isSpoilt 72 = .ok (.getfield 84, 3) := by decide +kernel
theorem dX12_isSpoilt_75 : decode cX12_isSpoilt 75 = .ok (.iconst 3, 1) := by decide +kernel
theorem dX12_isSpoilt_76 : decode cX12_isSpoilt 76 = .ok (.if_icmp .ge 5, 3) := by decide +kernel
theorem dX12_isSpoilt_79 : decode cX12_isSpoilt 79 = .ok (.iload_n 1, 1) := by decide +kernel
theorem dX12_isSpoilt_80 : decode cX12_isSpoilt 80 = .ok (.ireturn, 1) := by decide +kernel
theorem dX12_isSpoilt_81 : decode cX12_isSpoilt 81 = .ok (.aload_n 0, 1) := by decide +kernel
theorem dX12_isSpoilt_82 : decode cX12_isSpoilt 82 = .ok (.iconst 0, 1) := by decide +kernel
theorem dX12_isSpoilt_83 : decode cX12_isSpoilt 83 = .ok (.bipush 8, 2) := by decide +kernel
theorem dX12_isSpoilt_85 : decode cX12_isSpoilt 85 = .ok (.invokevirtual 87, 3) := by decide +kernel
theorem dX12_isSpoilt_88 : decode cX12_isSpoilt 88 = .ok (.istore_n 1, 1) := by decide +kernel
theorem dX12_isSpoilt_89 : decode cX12_isSpoilt 89 = .ok (.aload_n 0, 1) := by decide +kernel
theorem dX12_isSpoilt_90 : decode cX12_isSpoilt 90 = .ok (.getfield 36, 3) := by decide +kernel
theorem dX12_isSpoilt_93 : decode cX12_isSpoilt 93 = .ok (.iconst 2, 1) := by decide +kernel
theorem dX12_isSpoilt_94 : decode cX12_isSpoilt 94 = .ok (.iaload, 1) := by decide +kernel
theorem dX12_isSpoilt_95 : decode cX12_isSpoilt 95 = .ok (.iconst 5, 1) := by decide +kernel
theorem dX12_isSpoilt_96 : decode cX12_isSpoilt 96 = .ok (.isub, 1) := by decide +kernel
theorem dX12_isSpoilt_97 : decode cX12_isSpoilt 97 = .ok (.istore_n 2, 1) := by decide +kernel
theorem dX12_isSpoilt_98 : decode cX12_isSpoilt 98 = .ok (.iconst 0, 1) := by decide +kernel
theorem dX12_isSpoilt_99 : decode cX12_isSpoilt 99 = .ok (.istore_n 3, 1) := by decide +kernel
theorem dX12_isSpoilt_100 : decode cX12_isSpoilt 100 = .ok (.bipush 16, 2) := by decide +kernel
theorem dX12_isSpoilt_102 : decode cX12_isSpoilt 102 = .ok (.iload_n 3, 1) := by decide +kernel
theorem dX12_isSpoilt_103 : decode cX12_isSpoilt 103 = .ok (.imul, 1) := by decide +kernel
theorem dX12_isSpoilt_104 : decode cX12_isSpoilt 104 = .ok (.iload_n 2, 1) := by decide +kernel
theorem dX12_isSpoilt_105 : decode cX12_isSpoilt 105 = .ok (.if_icmp .ge 55, 3) := by decide +kernel
theorem dX12_isSpoilt_108 : decode cX12_isSpoilt 108 = .ok (.iload_n 1, 1) := by decide +kernel
theorem dX12_isSpoilt_109 : decode cX12_isSpoilt 109 = .ok (.ifCond .ne 39, 3) := by decide +kernel
theorem dX12_isSpoilt_112 : decode cX12_isSpoilt 112 = .ok (.aload_n 0, 1) := by decide +kernel
theorem dX12_isSpoilt_113 : decode cX12_isSpoilt 113 = .ok (.bipush 10, 2) := by decide +kernel
theorem dX12_isSpoilt_115 : decode cX12_isSpoilt 115 = .ok (.bipush 18, 2) := by decide +kernel
theorem dX12_isSpoilt_117 : decode cX12_isSpoilt 117 = .ok (.iload_n 3, 1) := by decide +kernel
theorem dX12_isSpoilt_118 : decode cX12_isSpoilt 118 = .ok (.imul, 1) := by decide +kernel
theorem dX12_isSpoilt_119 : decode cX12_isSpoilt 119 = .ok (.iadd, 1) := by decide +kernel
theorem dX12_isSpoilt_120 : decode cX12_isSpoilt 120 = .ok (.iload_n 2, 1) := by decide +kernel
theorem dX12_isSpoilt_121 : decode cX12_isSpoilt 121 = .ok (.bipush 16, 2) := by decide +kernel
theorem dX12_isSpoilt_123 : decode cX12_isSpoilt 123 = .ok (.iload_n 3, 1) := by decide +kernel
theorem dX12_isSpoilt_124 : decode cX12_isSpoilt 124 = .ok (.imul, 1) := by decide +kernel
theorem dX12_isSpoilt_125 : decode cX12_isSpoilt 125 = .ok (.isub, 1) := by decide +kernel
theorem dX12_isSpoilt_126 : decode cX12_isSpoilt 126 = .ok (.bipush 16, 2) := by decide +kernel
theorem dX12_isSpoilt_128 : decode cX12_isSpoilt 128 = .ok (.if_icmp .le 8, 3) := by decide +kernel
theorem dX12_isSpoilt_131 : decode cX12_isSpoilt 131 = .ok (.bipush 16, 2) := by decide +kernel
theorem dX12_isSpoilt_133 : decode cX12_isSpoilt 133 = .ok (.goto 9, 3) := by decide +kernel
theorem dX12_isSpoilt_136 : decode cX12_isSpoilt 136 = .ok (.iload_n 2, 1) := by decide +kernel
theorem dX12_isSpoilt_137 : decode cX12_isSpoilt 137 = .ok (.bipush 16, 2) := by decide +kernel
theorem dX12_isSpoilt_139 : decode cX12_isSpoilt 139 = .ok (.iload_n 3, 1) := by decide +kernel
theorem dX12_isSpoilt_140 : decode cX12_isSpoilt 140 = .ok (.imul, 1) := by decide +kernel
theorem dX12_isSpoilt_141 : decode cX12_isSpoilt 141 = .ok (.isub, 1) := by decide +kernel
theorem dX12_isSpoilt_142 : decode cX12_isSpoilt 142 = .ok (.invokevirtual 87, 3) := by decide +kernel
theorem dX12_isSpoilt_145 : decode cX12_isSpoilt 145 = .ok (.ifCond .eq 7, 3) := by decide +kernel
theorem dX12_isSpoilt_148 : decode cX12_isSpoilt 148 = .ok (.iconst 1, 1) := by decide +kernel
theorem dX12_isSpoilt_149 : decode cX12_isSpoilt 149 = .ok (.goto 4, 3) := by decide +kernel
theorem dX12_isSpoilt_152 : decode cX12_isSpoilt 152 = .ok (.iconst 0, 1) := by decide +kernel
theorem dX12_isSpoilt_153 : decode cX12_isSpoilt 153 = .ok (.istore_n 1, 1) := by decide +kernel
theorem dX12_isSpoilt_154 : decode cX12_isSpoilt 154 = .ok (.iinc 3 1, 3) := by decide +kernel
theorem dX12_isSpoilt_157 : decode cX12_isSpoilt 157 = .ok (.goto (-57), 3) := by decide +kernel
theorem dX12_isSpoilt_160 : decode cX12_isSpoilt 160 = .ok (.iload_n 1, 1) := by decide +kernel
theorem dX12_isSpoilt_161 : decode cX12_isSpoilt 161 = .ok (.ireturn, 1) := by decide +kernel
theorem dX12_drop_0 : decode cX12_drop 0 = .ok (.iload_n 1, 1) := by decide +kernel
theorem dX12_drop_1 : decode cX12_drop 1 = .ok (.istore_n 2, 1) := by decide +kernel
theorem dX12_drop_2 : decode cX12_drop 2 = .ok (.iload_n 2, 1) := by decide +kernel
theorem dX12_drop_3 : decode cX12_drop 3 = .ok (.aload_n 0, 1) := by decide +kernel
theorem dX12_drop_4 : decode cX12_drop 4 = .ok (.getfield 84, 3) := by decide +kernel
theorem dX12_drop_7 : decode cX12_drop 7 = .ok (.if_icmp .ge 23, 3) := by decide +kernel
theorem dX12_drop_10 : decode cX12_drop 10 = .ok (.aload_n 0, 1) := by decide +kernel
theorem dX12_drop_11 : decode cX12_drop 11 = .ok (.getfield 36, 3) := by decide +kernel
theorem dX12_drop_14 : decode cX12_drop 14 = .ok (.iload_n 2, 1) := by decide +kernel
theorem dX12_drop_15 : decode cX12_drop 15 = .ok (.iload_n 1, 1) := by decide +kernel
theorem dX12_drop_16 : decode cX12_drop 16 = .ok (.isub, 1) := by decide +kernel
theorem dX12_drop_17 : decode cX12_drop 17 = .ok (.aload_n 0, 1) := by decide +kernel
theorem dX12_drop_18 : decode cX12_drop 18 = .ok (.getfield 36, 3) := by decide +kernel
theorem dX12_drop_21 : decode cX12_drop 21 = .ok (.iload_n 2, 1) := by decide +kernel
theorem dX12_drop_22 : decode cX12_drop 22 = .ok (.iaload, 1) := by decide +kernel
theorem dX12_drop_23 : decode cX12_drop 23 = .ok (.iastore, 1) := by decide +kernel
theorem dX12_drop_24 : decode cX12_drop 24 = .ok (.iinc 2 1, 3) := by decide +kernel
theorem dX12_drop_27 : decode cX12_drop 27 = .ok (.goto (-25), 3) := by decide +kernel
theorem dX12_drop_30 : decode cX12_drop 30 = .ok (.aload_n 0, 1) := by decide +kernel
theorem dX12_drop_31 : decode cX12_drop 31 = .ok (.aload_n 0, 1) := by decide +kernel
theorem dX12_drop_32 : decode cX12_drop 32 = .ok (.getfield 84, 3) := by decide +kernel
theorem dX12_drop_35 : decode cX12_drop 35 = .ok (.iload_n 1, 1) := by decide +kernel
theorem dX12_drop_36 : decode cX12_drop 36 = .ok (.isub, 1) := by decide +kernel
theorem dX12_drop_37 : decode cX12_drop 37 = .ok (.putfield 84, 3) := by decide +kernel
theorem dX12_drop_40 : decode cX12_drop 40 = .ok (.return_, 1) := by decide +kernel
theorem dX12_took_0 : decode cX12_took 0 = .ok (.aload_n 0, 1) := by decide +kernel
theorem dX12_took_1 : decode cX12_took 1 = .ok (.invokevirtual 90, 3) := by decide +kernel
theorem dX12_took_4 : decode cX12_took 4 = .ok (.ifCond .eq 11, 3) := by decide +kernel
theorem dX12_took_7 : decode cX12_took 7 = .ok (.aload_n 0, 1) := by decide +kernel
theorem dX12_took_8 : decode cX12_took 8 = .ok (.iconst 1, 1) := by decide +kernel
theorem dX12_took_9 : decode cX12_took 9 = .ok (.invokevirtual 94, 3) := by decide +kernel
theorem dX12_took_12 : decode cX12_took 12 = .ok (.goto (-12), 3) := by decide +kernel
theorem dX12_took_15 : decode cX12_took 15 = .ok (.aload_n 0, 1) := by decide +kernel
theorem dX12_took_16 : decode cX12_took 16 = .ok (.getfield 84, 3) := by decide +kernel
theorem dX12_took_19 : decode cX12_took 19 = .ok (.iconst 3, 1) := by decide +kernel
theorem dX12_took_20 : decode cX12_took 20 = .ok (.if_icmp .ge 5, 3) := by decide +kernel
theorem dX12_took_23 : decode cX12_took 23 = .ok (.iconst 0, 1) := by decide +kernel
theorem dX12_took_24 : decode cX12_took 24 = .ok (.ireturn, 1) := by decide +kernel
theorem dX12_took_25 : decode cX12_took 25 = .ok (.aload_n 0, 1) := by decide +kernel
theorem dX12_took_26 : decode cX12_took 26 = .ok (.getfield 36, 3) := by decide +kernel
theorem dX12_took_29 : decode cX12_took 29 = .ok (.iconst 2, 1) := by decide +kernel
theorem dX12_took_30 : decode cX12_took 30 = .ok (.iaload, 1) := by decide +kernel
theorem dX12_took_31 : decode cX12_took 31 = .ok (.iconst 5, 1) := by decide +kernel
theorem dX12_took_32 : decode cX12_took 32 = .ok (.isub, 1) := by decide +kernel
theorem dX12_took_33 : decode cX12_took 33 = .ok (.istore_n 1, 1) := by decide +kernel
theorem dX12_took_34 : decode cX12_took 34 = .ok (.bipush 10, 2) := by decide +kernel
theorem dX12_took_36 : decode cX12_took 36 = .ok (.iload_n 1, 1) := by decide +kernel
theorem dX12_took_37 : decode cX12_took 37 = .ok (.iadd, 1) := by decide +kernel
theorem dX12_took_38 : decode cX12_took 38 = .ok (.iconst 2, 1) := by decide +kernel
theorem dX12_took_39 : decode cX12_took 39 = .ok (.iload_n 1, 1) := by decide +kernel
theorem dX12_took_40 : decode cX12_took 40 = .ok (.bipush 15, 2) := by decide +kernel
theorem dX12_took_42 : decode cX12_took 42 = .ok (.iadd, 1) := by decide +kernel
theorem dX12_took_43 : decode cX12_took 43 = .ok (.bipush 16, 2) := by decide +kernel
theorem dX12_took_45 : decode cX12_took 45 = .ok (.idiv, 1) := by decide +kernel
theorem dX12_took_46 : decode cX12_took 46 = .ok (.imul, 1) := by decide +kernel
theorem dX12_took_47 : decode cX12_took 47 = .ok (.iadd, 1) := by decide +kernel
theorem dX12_took_48 : decode cX12_took 48 = .ok (.istore_n 2, 1) := by decide +kernel
theorem dX12_took_49 : decode cX12_took 49 = .ok (.aload_n 0, 1) := by decide +kernel
theorem dX12_took_50 : decode cX12_took 50 = .ok (.getfield 84, 3) := by decide +kernel
theorem dX12_took_53 : decode cX12_took 53 = .ok (.iload_n 2, 1) := by decide +kernel
theorem dX12_took_54 : decode cX12_took 54 = .ok (.if_icmp .ge 5, 3) := by decide +kernel
theorem dX12_took_57 : decode cX12_took 57 = .ok (.iconst 0, 1) := by decide +kernel
theorem dX12_took_58 : decode cX12_took 58 = .ok (.ireturn, 1) := by decide +kernel
theorem dX12_took_59 : decode cX12_took 59 = .ok (.aload_n 0, 1) := by decide +kernel
theorem dX12_took_60 : decode cX12_took 60 = .ok (.getfield 36, 3) := by decide +kernel
theorem dX12_took_63 : decode cX12_took 63 = .ok (.iconst 3, 1) := by decide +kernel
theorem dX12_took_64 : decode cX12_took 64 = .ok (.iaload, 1) := by decide +kernel
theorem dX12_took_65 : decode cX12_took 65 = .ok (.sipush 196, 3) := by decide +kernel
theorem dX12_took_68 : decode cX12_took 68 = .ok (.if_icmp .ne 47, 3) := by decide +kernel
theorem dX12_took_71 : decode cX12_took 71 = .ok (.aload_n 0, 1) := by decide +kernel
theorem dX12_took_72 : decode cX12_took 72 = .ok (.getfield 36, 3) := by decide +kernel
theorem dX12_took_75 : decode cX12_took 75 = .ok (.iconst 4, 1) := by decide +kernel
theorem dX12_took_76 : decode cX12_took 76 = .ok (.iaload, 1) := by decide +kernel
theorem dX12_took_77 : decode cX12_took 77 = .ok (.bipush 10, 2) := by decide +kernel
theorem dX12_took_79 : decode cX12_took 79 = .ok (.if_icmp .ne 36, 3) := by decide +kernel
theorem dX12_took_82 : decode cX12_took 82 = .ok (.aload_n 0, 1) := by decide +kernel
theorem dX12_took_83 : decode cX12_took 83 = .ok (.getfield 36, 3) := by decide +kernel
theorem dX12_took_86 : decode cX12_took 86 = .ok (.iconst 5, 1) := by decide +kernel
theorem dX12_took_87 : decode cX12_took 87 = .ok (.iaload, 1) := by decide +kernel
theorem dX12_took_88 : decode cX12_took 88 = .ok (.ifCond .ne 27, 3) := by decide +kernel
theorem dX12_took_91 : decode cX12_took 91 = .ok (.aload_n 0, 1) := by decide +kernel
theorem dX12_took_92 : decode cX12_took 92 = .ok (.iload_n 1, 1) := by decide +kernel
theorem dX12_took_93 : decode cX12_took 93 = .ok (.aload_n 0, 1) := by decide +kernel
theorem dX12_took_94 : decode cX12_took 94 = .ok (.getfield 36, 3) := by decide +kernel
theorem dX12_took_97 : decode cX12_took 97 = .ok (.bipush 6, 2) := by decide +kernel
theorem dX12_took_99 : decode cX12_took 99 = .ok (.iaload, 1) := by decide +kernel
theorem dX12_took_100 : decode cX12_took 100 = .ok (.sipush 256, 3) := by decide +kernel
theorem dX12_took_103 : decode cX12_took 103 = .ok (.aload_n 0, 1) := by decide +kernel
theorem dX12_took_104 : decode cX12_took 104 = .ok (.getfield 36, 3) := by decide +kernel
theorem dX12_took_107 : decode cX12_took 107 = .ok (.bipush 7, 2) := by decide +kernel
theorem dX12_took_109 : decode cX12_took 109 = .ok (.iaload, 1) := by decide +kernel
theorem dX12_took_110 : decode cX12_took 110 = .ok (.imul, 1) := by decide +kernel
theorem dX12_took_111 : decode cX12_took 111 = .ok (.iadd, 1) := by decide +kernel
theorem dX12_took_112 : decode cX12_took 112 = .ok (.invokevirtual 98, 3) := by decide +kernel
theorem dX12_took_115 : decode cX12_took 115 = .ok (.aload_n 0, 1) := by decide +kernel
theorem dX12_took_116 : decode cX12_took 116 = .ok (.iload_n 2, 1) := by decide +kernel
theorem dX12_took_117 : decode cX12_took 117 = .ok (.invokevirtual 94, 3) := by decide +kernel
theorem dX12_took_120 : decode cX12_took 120 = .ok (.iconst 1, 1) := by decide +kernel
theorem dX12_took_121 : decode cX12_took 121 = .ok (.ireturn, 1) := by decide +kernel
theorem dX12_payloadAt_0 : decode cX12_payloadAt 0 = .ok (.aload_n 0, 1) := by decide +kernel
theorem dX12_payloadAt_1 : decode cX12_payloadAt 1 = .ok (.getfield 36, 3) := by decide +kernel
theorem dX12_payloadAt_4 : decode cX12_payloadAt 4 = .ok (.bipush 10, 2) := by decide +kernel
theorem dX12_payloadAt_6 : decode cX12_payloadAt 6 = .ok (.iload_n 1, 1) := by decide +kernel
theorem dX12_payloadAt_7 : decode cX12_payloadAt 7 = .ok (.iadd, 1) := by decide +kernel
theorem dX12_payloadAt_8 : decode cX12_payloadAt 8 = .ok (.iconst 2, 1) := by decide +kernel
theorem dX12_payloadAt_9 : decode cX12_payloadAt 9 = .ok (.iload_n 1, 1) := by decide +kernel
theorem dX12_payloadAt_10 : decode cX12_payloadAt 10 = .ok (.bipush 16, 2) := by decide +kernel
theorem dX12_payloadAt_12 : decode cX12_payloadAt 12 = .ok (.idiv, 1) := by decide +kernel
theorem dX12_payloadAt_13 : decode cX12_payloadAt 13 = .ok (.imul, 1) := by decide +kernel
theorem dX12_payloadAt_14 : decode cX12_payloadAt 14 = .ok (.iadd, 1) := by decide +kernel
theorem dX12_payloadAt_15 : decode cX12_payloadAt 15 = .ok (.iaload, 1) := by decide +kernel
theorem dX12_payloadAt_16 : decode cX12_payloadAt 16 = .ok (.ireturn, 1) := by decide +kernel
theorem dX12_takePart_0 : decode cX12_takePart 0 = .ok (.aload_n 0, 1) := by decide +kernel
theorem dX12_takePart_1 : decode cX12_takePart 1 = .ok (.iconst 0, 1) := by decide +kernel
theorem dX12_takePart_2 : decode cX12_takePart 2 = .ok (.invokevirtual 101, 3) := by decide +kernel
theorem dX12_takePart_5 : decode cX12_takePart 5 = .ok (.istore_n 3, 1) := by decide +kernel
theorem dX12_takePart_6 : decode cX12_takePart 6 = .ok (.iload_n 3, 1) := by decide +kernel
theorem dX12_takePart_7 : decode cX12_takePart 7 = .ok (.bipush 6, 2) := by decide +kernel
theorem dX12_takePart_9 : decode cX12_takePart 9 = .ok (.ishr, 1) := by decide +kernel
theorem dX12_takePart_10 : decode cX12_takePart 10 = .ok (.iconst 1, 1) := by decide +kernel
theorem dX12_takePart_11 : decode cX12_takePart 11 = .ok (.iand, 1) := by decide +kernel
theorem dX12_takePart_12 : decode cX12_takePart 12 = .ok (.iconst 1, 1) := by decide +kernel
theorem dX12_takePart_13 : decode cX12_takePart 13 = .ok (.if_icmp .ne 7, 3) := by decide +kernel
theorem dX12_takePart_16 : decode cX12_takePart 16 = .ok (.iconst 1, 1) := by decide +kernel
theorem dX12_takePart_17 : decode cX12_takePart 17 = .ok (.goto 4, 3) := by decide +kernel
theorem dX12_takePart_20 : decode cX12_takePart 20 = .ok (.iconst 0, 1) := by decide +kernel
theorem dX12_takePart_21 : decode cX12_takePart 21 = .ok (.istore 4, 2) := by decide +kernel
theorem dX12_takePart_23 : decode cX12_takePart 23 = .ok (.iload_n 3, 1) := by decide +kernel
theorem dX12_takePart_24 : decode cX12_takePart 24 = .ok (.bipush 64, 2) := by decide +kernel
theorem dX12_takePart_26 : decode cX12_takePart 26 = .ok (.irem, 1) := by decide +kernel
theorem dX12_takePart_27 : decode cX12_takePart 27 = .ok (.istore 5, 2) := by decide +kernel
theorem dX12_takePart_29 : decode cX12_takePart 29 = .ok (.aload_n 0, 1) := by decide +kernel
theorem dX12_takePart_30 : decode cX12_takePart 30 = .ok (.iload 4, 2) := by decide +kernel
theorem dX12_takePart_32 : decode cX12_takePart 32 = .ok (.ifCond .ne 45, 3) := by decide +kernel
theorem dX12_takePart_35 : decode cX12_takePart 35 = .ok (.aload_n 0, 1) := by decide +kernel
theorem dX12_takePart_36 : decode cX12_takePart 36 = .ok (.getfield 105, 3) := by decide +kernel
theorem dX12_takePart_39 : decode cX12_takePart 39 = .ok (.ifCond .eq 42, 3) := by decide +kernel
theorem dX12_takePart_42 : decode cX12_takePart 42 = .ok (.aload_n 0, 1) := by decide +kernel
theorem dX12_takePart_43 : decode cX12_takePart 43 = .ok (.getfield 108, 3) := by decide +kernel
theorem dX12_takePart_46 : decode cX12_takePart 46 = .ok (.iload_n 2, 1) := by decide +kernel
theorem dX12_takePart_47 : decode cX12_takePart 47 = .ok (.if_icmp .ne 34, 3) := by decide +kernel
theorem dX12_takePart_50 : decode cX12_takePart 50 = .ok (.iload 5, 2) := by decide +kernel
theorem dX12_takePart_52 : decode cX12_takePart 52 = .ok (.aload_n 0, 1) := by decide +kernel
theorem dX12_takePart_53 : decode cX12_takePart 53 = .ok (.getfield 111, 3) := by decide +kernel
theorem dX12_takePart_56 : decode cX12_takePart 56 = .ok (.iconst 1, 1) := by decide +kernel
theorem dX12_takePart_57 : decode cX12_takePart 57 = .ok (.iadd, 1) := by decide +kernel
theorem dX12_takePart_58 : decode cX12_takePart 58 = .ok (.bipush 64, 2) := by decide +kernel
theorem dX12_takePart_60 : decode cX12_takePart 60 = .ok (.irem, 1) := by decide +kernel
theorem dX12_takePart_61 : decode cX12_takePart 61 = .ok (.if_icmp .ne 20, 3) := by decide +kernel
theorem dX12_takePart_64 : decode cX12_takePart 64 = .ok (.aload_n 0, 1) := by decide +kernel
theorem dX12_takePart_65 : decode cX12_takePart 65 = .ok (.getfield 114, 3) := by decide +kernel
theorem dX12_takePart_68 : decode cX12_takePart 68 = .ok (.iload_n 1, 1) := by decide +kernel
theorem dX12_takePart_69 : decode cX12_takePart 69 = .ok (.iadd, 1) := by decide +kernel
theorem dX12_takePart_70 : decode cX12_takePart 70 = .ok (.iconst 1, 1) := by decide +kernel
theorem dX12_takePart_71 : decode cX12_takePart 71 = .ok (.isub, 1) := by decide +kernel
theorem dX12_takePart_72 : decode cX12_takePart 72 = .ok (.bipush 60, 2) := by decide +kernel
theorem dX12_takePart_74 : decode cX12_takePart 74 = .ok (.if_icmp .gt 7, 3) := by decide +kernel
theorem dX12_takePart_77 : decode cX12_takePart 77 = .ok (.iconst 1, 1) := by decide +kernel
theorem dX12_takePart_78 : decode cX12_takePart 78 = .ok (.goto 4, 3) := by decide +kernel
theorem dX12_takePart_81 : decode cX12_takePart 81 = .ok (.iconst 0, 1) := by decide +kernel
theorem dX12_takePart_82 : decode cX12_takePart 82 = .ok (.putfield 105, 3) := by decide +kernel
theorem dX12_takePart_85 : decode cX12_takePart 85 = .ok (.aload_n 0, 1) := by decide +kernel
theorem dX12_takePart_86 : decode cX12_takePart 86 = .ok (.getfield 105, 3) := by decide +kernel
theorem dX12_takePart_89 : decode cX12_takePart 89 = .ok (.ifCond .ne 4, 3) := by decide +kernel
theorem dX12_takePart_92 : decode cX12_takePart 92 = .ok (.return_, 1) := by decide +kernel
theorem dX12_takePart_93 : decode cX12_takePart 93 = .ok (.aload_n 0, 1) := by decide +kernel
theorem dX12_takePart_94 : decode cX12_takePart 94 = .ok (.iload 4, 2) := by decide +kernel
theorem dX12_takePart_96 : decode cX12_takePart 96 = .ok (.ifCond .eq 7, 3) := by decide +kernel
theorem dX12_takePart_99 : decode cX12_takePart 99 = .ok (.iconst 0, 1) := by decide +kernel
theorem dX12_takePart_100 : decode cX12_takePart 100 = .ok (.goto 7, 3) := by decide +kernel
theorem dX12_takePart_103 : decode cX12_takePart 103 = .ok (.aload_n 0, 1) := by decide +kernel
theorem dX12_takePart_104 : decode cX12_takePart 104 = .ok (.getfield 114, 3) := by decide +kernel
theorem dX12_takePart_107 : decode cX12_takePart 107 = .ok (.putfield 114, 3) := by decide +kernel
theorem dX12_takePart_110 : decode cX12_takePart 110 = .ok (.iconst 1, 1) := by decide +kernel
theorem dX12_takePart_111 : decode cX12_takePart 111 = .ok (.istore 6, 2) := by decide +kernel
theorem dX12_takePart_113 : decode cX12_takePart 113 = .ok (.iload 6, 2) := by decide +kernel
theorem dX12_takePart_115 : decode cX12_takePart 115 = .ok (.iload_n 1, 1) := by decide +kernel
theorem dX12_takePart_116 : decode cX12_takePart 116 = .ok (.if_icmp .ge 34, 3) := by decide +kernel
theorem dX12_takePart_119 : decode cX12_takePart 119 = .ok (.aload_n 0, 1) := by decide +kernel
theorem dX12_takePart_120 : decode cX12_takePart 120 = .ok (.getfield 39, 3) := by decide +kernel
theorem dX12_takePart_123 : decode cX12_takePart 123 = .ok (.aload_n 0, 1) := by decide +kernel
theorem dX12_takePart_124 : decode cX12_takePart 124 = .ok (.getfield 114, 3) := by decide +kernel
theorem dX12_takePart_127 : decode cX12_takePart 127 = .ok (.aload_n 0, 1) := by decide +kernel
theorem dX12_takePart_128 : decode cX12_takePart 128 = .ok (.iload 6, 2) := by decide +kernel
theorem dX12_takePart_130 : decode cX12_takePart 130 = .ok (.invokevirtual 101, 3) := by decide +kernel
theorem dX12_takePart_133 : decode cX12_takePart 133 = .ok (.iastore, 1) := by decide +kernel
theorem dX12_takePart_134 : decode cX12_takePart 134 = .ok (.aload_n 0, 1) := by decide +kernel
theorem dX12_takePart_135 : decode cX12_takePart 135 = .ok (.dup, 1) := by decide +kernel
theorem dX12_takePart_136 : decode cX12_takePart 136 = .ok (.getfield 114, 3) := by decide +kernel
theorem dX12_takePart_139 : decode cX12_takePart 139 = .ok (.iconst 1, 1) := by decide +kernel
theorem dX12_takePart_140 : decode cX12_takePart 140 = .ok (.iadd, 1) := by decide +kernel
theorem dX12_takePart_141 : decode cX12_takePart 141 = .ok (.putfield 114, 3) := by decide +kernel
theorem dX12_takePart_144 : decode cX12_takePart 144 = .ok (.iinc 6 1, 3) := by decide +kernel
theorem dX12_takePart_147 : decode cX12_takePart 147 = .ok (.goto (-34), 3) := by decide +kernel
theorem dX12_takePart_150 : decode cX12_takePart 150 = .ok (.aload_n 0, 1) := by decide +kernel
theorem dX12_takePart_151 : decode cX12_takePart 151 = .ok (.iload_n 2, 1) := by decide +kernel
theorem dX12_takePart_152 : decode cX12_takePart 152 = .ok (.putfield 108, 3) := by decide +kernel
theorem dX12_takePart_155 : decode cX12_takePart 155 = .ok (.aload_n 0, 1) := by decide +kernel
theorem dX12_takePart_156 : decode cX12_takePart 156 = .ok (.iload 5, 2) := by decide +kernel
theorem dX12_takePart_158 : decode cX12_takePart 158 = .ok (.putfield 111, 3) := by decide +kernel
theorem dX12_takePart_161 : decode cX12_takePart 161 = .ok (.iload_n 3, 1) := by decide +kernel
theorem dX12_takePart_162 : decode cX12_takePart 162 = .ok (.sipush 128, 3) := by decide +kernel
theorem dX12_takePart_165 : decode cX12_takePart 165 = .ok (.if_icmp .ge 4, 3) := by decide +kernel
theorem dX12_takePart_168 : decode cX12_takePart 168 = .ok (.return_, 1) := by decide +kernel
theorem dX12_takePart_169 : decode cX12_takePart 169 = .ok (.aload_n 0, 1) := by decide +kernel
theorem dX12_takePart_170 : decode cX12_takePart 170 = .ok (.iconst 0, 1) := by decide +kernel
theorem dX12_takePart_171 : decode cX12_takePart 171 = .ok (.putfield 105, 3) := by decide +kernel
theorem dX12_takePart_174 : decode cX12_takePart 174 = .ok (.aload_n 0, 1) := by decide +kernel
theorem dX12_takePart_175 : decode cX12_takePart 175 = .ok (.invokevirtual 117, 3) := by decide +kernel
theorem dX12_takePart_178 : decode cX12_takePart 178 = .ok (.return_, 1) := by decide +kernel
theorem dX12_hear_0 : decode cX12_hear 0 = .ok (.aload_n 0, 1) := by decide +kernel
theorem dX12_hear_1 : decode cX12_hear 1 = .ok (.iload_n 3, 1) := by decide +kernel
theorem dX12_hear_2 : decode cX12_hear 2 = .ok (.iconst 1, 1) := by decide +kernel
theorem dX12_hear_3 : decode cX12_hear 3 = .ok (.if_icmp .lt 9, 3) := by decide +kernel
theorem dX12_hear_6 : decode cX12_hear 6 = .ok (.iload_n 3, 1) := by decide +kernel
theorem dX12_hear_7 : decode cX12_hear 7 = .ok (.bipush 8, 2) := by decide +kernel
theorem dX12_hear_9 : decode cX12_hear 9 = .ok (.if_icmp .le 7, 3) := by decide +kernel
theorem dX12_hear_12 : decode cX12_hear 12 = .ok (.iconst 1, 1) := by decide +kernel
theorem dX12_hear_13 : decode cX12_hear 13 = .ok (.goto 4, 3) := by decide +kernel
theorem dX12_hear_16 : decode cX12_hear 16 = .ok (.iconst 0, 1) := by decide +kernel
theorem dX12_hear_17 : decode cX12_hear 17 = .ok (.invokevirtual 65, 3) := by decide +kernel
theorem dX12_hear_20 : decode cX12_hear 20 = .ok (.ifCond .eq 5, 3) := by decide +kernel
theorem dX12_hear_23 : decode cX12_hear 23 = .ok (.iconst 0, 1) := by decide +kernel
theorem dX12_hear_24 : decode cX12_hear 24 = .ok (.ireturn, 1) := by decide +kernel
theorem dX12_hear_25 : decode cX12_hear 25 = .ok (.iload_n 3, 1) := by decide +kernel
theorem dX12_hear_26 : decode cX12_hear 26 = .ok (.iconst 1, 1) := by decide +kernel
theorem dX12_hear_27 : decode cX12_hear 27 = .ok (.isub, 1) := by decide +kernel
theorem dX12_hear_28 : decode cX12_hear 28 = .ok (.istore 4, 2) := by decide +kernel
theorem dX12_hear_30 : decode cX12_hear 30 = .ok (.iload 4, 2) := by decide +kernel
theorem dX12_hear_32 : decode cX12_hear 32 = .ok (.ifCond .lt 57, 3) := by decide +kernel
theorem dX12_hear_35 : decode cX12_hear 35 = .ok (.aload_n 0, 1) := by decide +kernel
theorem dX12_hear_36 : decode cX12_hear 36 = .ok (.getfield 36, 3) := by decide +kernel
theorem dX12_hear_39 : decode cX12_hear 39 = .ok (.aload_n 0, 1) := by decide +kernel
theorem dX12_hear_40 : decode cX12_hear 40 = .ok (.getfield 84, 3) := by decide +kernel
theorem dX12_hear_43 : decode cX12_hear 43 = .ok (.lload_n 1, 1) := by decide +kernel
theorem dX12_hear_44 : decode cX12_hear 44 = .ok (.bipush 8, 2) := by decide +kernel
theorem dX12_hear_46 : decode cX12_hear 46 = .ok (.iload 4, 2) := by decide +kernel
theorem dX12_hear_48 : decode cX12_hear 48 = .ok (.imul, 1) := by decide +kernel
theorem dX12_hear_49 : decode cX12_hear 49 = .ok (.lshr, 1) := by decide +kernel
theorem dX12_hear_50 : decode cX12_hear 50 = .ok (.ldc2_w 77, 3) := by decide +kernel
theorem dX12_hear_53 : decode cX12_hear 53 = .ok (.land, 1) := by decide +kernel
theorem dX12_hear_54 : decode cX12_hear 54 = .ok (.l2i, 1) := by decide +kernel
theorem dX12_hear_55 : decode cX12_hear 55 = .ok (.iastore, 1) := by decide +kernel
theorem dX12_hear_56 : decode cX12_hear 56 = .ok (.aload_n 0, 1) := by decide +kernel
theorem dX12_hear_57 : decode cX12_hear 57 = .ok (.dup, 1) := by decide +kernel
theorem dX12_hear_58 : decode cX12_hear 58 = .ok (.getfield 84, 3) := by decide +kernel
theorem dX12_hear_61 : decode cX12_hear 61 = .ok (.iconst 1, 1) := by decide +kernel
theorem dX12_hear_62 : decode cX12_hear 62 = .ok (.iadd, 1) := by decide +kernel
theorem dX12_hear_63 : decode cX12_hear 63 = .ok (.putfield 84, 3) := by decide +kernel
theorem dX12_hear_66 : decode cX12_hear 66 = .ok (.iconst 1, 1) := by decide +kernel
theorem dX12_hear_67 : decode cX12_hear 67 = .ok (.istore 5, 2) := by decide +kernel
theorem dX12_hear_69 : decode cX12_hear 69 = .ok (.iload 5, 2) := by decide +kernel
theorem dX12_hear_71 : decode cX12_hear 71 = .ok (.ifCond .eq 12, 3) := by decide +kernel
theorem dX12_hear_74 : decode cX12_hear 74 = .ok (.aload_n 0, 1) := by decide +kernel
theorem dX12_hear_75 : decode cX12_hear 75 = .ok (.invokevirtual 120, 3) := by decide +kernel
theorem dX12_hear_78 : decode cX12_hear 78 = .ok (.istore 5, 2) := by decide +kernel
theorem dX12_hear_80 : decode cX12_hear 80 = .ok (.goto (-11), 3) := by decide +kernel
theorem dX12_hear_83 : decode cX12_hear 83 = .ok (.iinc 4 (-1), 3) := by decide +kernel
theorem dX12_hear_86 : decode cX12_hear 86 = .ok (.goto (-56), 3) := by decide +kernel
theorem dX12_hear_89 : decode cX12_hear 89 = .ok (.aload_n 0, 1) := by decide +kernel
theorem dX12_hear_90 : decode cX12_hear 90 = .ok (.getfield 84, 3) := by decide +kernel
theorem dX12_hear_93 : decode cX12_hear 93 = .ok (.ireturn, 1) := by decide +kernel
theorem dX12_add_0 : decode cX12_add 0 = .ok (.aload_n 0, 1) := by decide +kernel
theorem dX12_add_1 : decode cX12_add 1 = .ok (.getfield 49, 3) := by decide +kernel
theorem dX12_add_4 : decode cX12_add 4 = .ok (.aload_n 0, 1) := by decide +kernel
theorem dX12_add_5 : decode cX12_add 5 = .ok (.getfield 123, 3) := by decide +kernel
theorem dX12_add_8 : decode cX12_add 8 = .ok (.iload_n 1, 1) := by decide +kernel
theorem dX12_add_9 : decode cX12_add 9 = .ok (.sipush 255, 3) := by decide +kernel
theorem dX12_add_12 : decode cX12_add 12 = .ok (.iand, 1) := by decide +kernel
theorem dX12_add_13 : decode cX12_add 13 = .ok (.iastore, 1) := by decide +kernel
theorem dX12_add_14 : decode cX12_add 14 = .ok (.aload_n 0, 1) := by decide +kernel
theorem dX12_add_15 : decode cX12_add 15 = .ok (.dup, 1) := by decide +kernel
theorem dX12_add_16 : decode cX12_add 16 = .ok (.getfield 123, 3) := by decide +kernel
theorem dX12_add_19 : decode cX12_add 19 = .ok (.iconst 1, 1) := by decide +kernel
theorem dX12_add_20 : decode cX12_add 20 = .ok (.iadd, 1) := by decide +kernel
theorem dX12_add_21 : decode cX12_add 21 = .ok (.putfield 123, 3) := by decide +kernel
theorem dX12_add_24 : decode cX12_add 24 = .ok (.return_, 1) := by decide +kernel
theorem dX12_request_0 : decode cX12_request 0 = .ok (.aload_n 0, 1) := by decide +kernel
theorem dX12_request_1 : decode cX12_request 1 = .ok (.getfield 114, 3) := by decide +kernel
theorem dX12_request_4 : decode cX12_request 4 = .ok (.iconst 2, 1) := by decide +kernel
theorem dX12_request_5 : decode cX12_request 5 = .ok (.if_icmp .lt 21, 3) := by decide +kernel
theorem dX12_request_8 : decode cX12_request 8 = .ok (.aload_n 0, 1) := by decide +kernel
theorem dX12_request_9 : decode cX12_request 9 = .ok (.getfield 39, 3) := by decide +kernel
theorem dX12_request_12 : decode cX12_request 12 = .ok (.iconst 0, 1) := by decide +kernel
theorem dX12_request_13 : decode cX12_request 13 = .ok (.iaload, 1) := by decide +kernel
theorem dX12_request_14 : decode cX12_request 14 = .ok (.sipush 192, 3) := by decide +kernel
theorem dX12_request_17 : decode cX12_request 17 = .ok (.isub, 1) := by decide +kernel
theorem dX12_request_18 : decode cX12_request 18 = .ok (.bipush 16, 2) := by decide +kernel
theorem dX12_request_20 : decode cX12_request 20 = .ok (.invokestatic 61, 3) := by decide +kernel
theorem dX12_request_23 : decode cX12_request 23 = .ok (.ifCond .eq 4, 3) := by decide +kernel
theorem dX12_request_26 : decode cX12_request 26 = .ok (.return_, 1) := by decide +kernel
theorem dX12_request_27 : decode cX12_request 27 = .ok (.aload_n 0, 1) := by decide +kernel
theorem dX12_request_28 : decode cX12_request 28 = .ok (.getfield 39, 3) := by decide +kernel
theorem dX12_request_31 : decode cX12_request 31 = .ok (.iconst 0, 1) := by decide +kernel
theorem dX12_request_32 : decode cX12_request 32 = .ok (.iaload, 1) := by decide +kernel
theorem dX12_request_33 : decode cX12_request 33 = .ok (.sipush 192, 3) := by decide +kernel
theorem dX12_request_36 : decode cX12_request 36 = .ok (.isub, 1) := by decide +kernel
theorem dX12_request_37 : decode cX12_request 37 = .ok (.istore_n 1, 1) := by decide +kernel
theorem dX12_request_38 : decode cX12_request 38 = .ok (.aload_n 0, 1) := by decide +kernel
theorem dX12_request_39 : decode cX12_request 39 = .ok (.getfield 39, 3) := by decide +kernel
theorem dX12_request_42 : decode cX12_request 42 = .ok (.iconst 1, 1) := by decide +kernel
theorem dX12_request_43 : decode cX12_request 43 = .ok (.iaload, 1) := by decide +kernel
theorem dX12_request_44 : decode cX12_request 44 = .ok (.istore_n 2, 1) := by decide +kernel
theorem dX12_request_45 : decode cX12_request 45 = .ok (.iload_n 2, 1) := by decide +kernel
theorem dX12_request_46 : decode cX12_request 46 = .ok (.ifCond .ne 16, 3) := by decide +kernel
theorem dX12_request_49 : decode cX12_request 49 = .ok (.aload_n 0, 1) := by decide +kernel
theorem dX12_request_50 : decode cX12_request 50 = .ok (.getfield 46, 3) := by decide +kernel
theorem dX12_request_53 : decode cX12_request 53 = .ok (.iload_n 1, 1) := by decide +kernel
theorem dX12_request_54 : decode cX12_request 54 = .ok (.if_icmp .ne 7, 3) := by decide +kernel
theorem dX12_request_57 : decode cX12_request 57 = .ok (.aload_n 0, 1) := by decide +kernel
theorem dX12_request_58 : decode cX12_request 58 = .ok (.invokevirtual 126, 3) := by decide +kernel
theorem dX12_request_61 : decode cX12_request 61 = .ok (.return_, 1) := by decide +kernel
theorem dX12_request_62 : decode cX12_request 62 = .ok (.aload_n 0, 1) := by decide +kernel
theorem dX12_request_63 : decode cX12_request 63 = .ok (.iconst 0, 1) := by decide +kernel
theorem dX12_request_64 : decode cX12_request 64 = .ok (.putfield 129, 3) := by decide +kernel
theorem dX12_request_67 : decode cX12_request 67 = .ok (.aload_n 0, 1) := by decide +kernel
theorem dX12_request_68 : decode cX12_request 68 = .ok (.iconst (-1), 1) := by decide +kernel
theorem dX12_request_69 : decode cX12_request 69 = .ok (.putfield 46, 3) := by decide +kernel
theorem dX12_request_72 : decode cX12_request 72 = .ok (.aload_n 0, 1) := by decide +kernel
theorem dX12_request_73 : decode cX12_request 73 = .ok (.getfield 22, 3) := by decide +kernel
theorem dX12_request_76 : decode cX12_request 76 = .ok (.iconst 0, 1) := by decide +kernel
theorem dX12_request_77 : decode cX12_request 77 = .ok (.iconst 0, 1) := by decide +kernel
theorem dX12_request_78 : decode cX12_request 78 = .ok (.iastore, 1) := by decide +kernel
theorem dX12_request_79 : decode cX12_request 79 = .ok (.aload_n 0, 1) := by decide +kernel
theorem dX12_request_80 : decode cX12_request 80 = .ok (.getfield 22, 3) := by decide +kernel
theorem dX12_request_83 : decode cX12_request 83 = .ok (.iconst 1, 1) := by decide +kernel
theorem dX12_request_84 : decode cX12_request 84 = .ok (.iconst 0, 1) := by decide +kernel
theorem dX12_request_85 : decode cX12_request 85 = .ok (.iastore, 1) := by decide +kernel
theorem dX12_request_86 : decode cX12_request 86 = .ok (.aload_n 0, 1) := by decide +kernel
theorem dX12_request_87 : decode cX12_request 87 = .ok (.iconst 0, 1) := by decide +kernel
theorem dX12_request_88 : decode cX12_request 88 = .ok (.putfield 123, 3) := by decide +kernel
theorem dX12_request_91 : decode cX12_request 91 = .ok (.aload_n 0, 1) := by decide +kernel
theorem dX12_request_92 : decode cX12_request 92 = .ok (.sipush 192, 3) := by decide +kernel
theorem dX12_request_95 : decode cX12_request 95 = .ok (.iload_n 1, 1) := by decide +kernel
theorem dX12_request_96 : decode cX12_request 96 = .ok (.iadd, 1) := by decide +kernel
theorem dX12_request_97 : decode cX12_request 97 = .ok (.invokevirtual 132, 3) := by decide +kernel
theorem dX12_request_100 : decode cX12_request 100 = .ok (.aload_n 0, 1) := by decide +kernel
theorem dX12_request_101 : decode cX12_request 101 = .ok (.sipush 129, 3) := by decide +kernel
theorem dX12_request_104 : decode cX12_request 104 = .ok (.invokevirtual 132, 3) := by decide +kernel
theorem dX12_request_107 : decode cX12_request 107 = .ok (.aload_n 0, 1) := by decide +kernel
theorem dX12_request_108 : decode cX12_request 108 = .ok (.iconst 0, 1) := by decide +kernel
theorem dX12_request_109 : decode cX12_request 109 = .ok (.invokevirtual 132, 3) := by decide +kernel
theorem dX12_request_112 : decode cX12_request 112 = .ok (.aload_n 0, 1) := by decide +kernel
theorem dX12_request_113 : decode cX12_request 113 = .ok (.iconst 0, 1) := by decide +kernel
theorem dX12_request_114 : decode cX12_request 114 = .ok (.invokevirtual 132, 3) := by decide +kernel
theorem dX12_request_117 : decode cX12_request 117 = .ok (.iload_n 2, 1) := by decide +kernel
theorem dX12_request_118 : decode cX12_request 118 = .ok (.iconst 1, 1) := by decide +kernel
theorem dX12_request_119 : decode cX12_request 119 = .ok (.if_icmp .ne 10, 3) := by decide +kernel
theorem dX12_request_122 : decode cX12_request 122 = .ok (.aload_n 0, 1) := by decide +kernel
theorem dX12_request_123 : decode cX12_request 123 = .ok (.invokevirtual 135, 3) := by decide +kernel
theorem dX12_request_126 : decode cX12_request 126 = .ok (.goto 35, 3) := by decide +kernel
theorem dX12_request_129 : decode cX12_request 129 = .ok (.iload_n 2, 1) := by decide +kernel
theorem dX12_request_130 : decode cX12_request 130 = .ok (.iconst 2, 1) := by decide +kernel
theorem dX12_request_131 : decode cX12_request 131 = .ok (.if_icmp .ne 10, 3) := by decide +kernel
theorem dX12_request_134 : decode cX12_request 134 = .ok (.aload_n 0, 1) := by decide +kernel
theorem dX12_request_135 : decode cX12_request 135 = .ok (.invokevirtual 138, 3) := by decide +kernel
theorem dX12_request_138 : decode cX12_request 138 = .ok (.goto 23, 3) := by decide +kernel
theorem dX12_request_141 : decode cX12_request 141 = .ok (.iload_n 2, 1) := by decide +kernel
theorem dX12_request_142 : decode cX12_request 142 = .ok (.bipush 6, 2) := by decide +kernel
theorem dX12_request_144 : decode cX12_request 144 = .ok (.if_icmp .ge 12, 3) := by decide +kernel
theorem dX12_request_147 : decode cX12_request 147 = .ok (.aload_n 0, 1) := by decide +kernel
theorem dX12_request_148 : decode cX12_request 148 = .ok (.iload_n 2, 1) := by decide +kernel
theorem dX12_request_149 : decode cX12_request 149 = .ok (.iload_n 1, 1) := by decide +kernel
theorem dX12_request_150 : decode cX12_request 150 = .ok (.invokevirtual 141, 3) := by decide +kernel
theorem dX12_request_153 : decode cX12_request 153 = .ok (.goto 8, 3) := by decide +kernel
theorem dX12_request_156 : decode cX12_request 156 = .ok (.aload_n 0, 1) := by decide +kernel
theorem dX12_request_157 : decode cX12_request 157 = .ok (.iconst 1, 1) := by decide +kernel
theorem dX12_request_158 : decode cX12_request 158 = .ok (.putfield 129, 3) := by decide +kernel
theorem dX12_request_161 : decode cX12_request 161 = .ok (.iload_n 2, 1) := by decide +kernel
theorem dX12_request_162 : decode cX12_request 162 = .ok (.iconst 3, 1) := by decide +kernel
theorem dX12_request_163 : decode cX12_request 163 = .ok (.if_icmp .lt 8, 3) := by decide +kernel
theorem dX12_request_166 : decode cX12_request 166 = .ok (.iload_n 2, 1) := by decide +kernel
theorem dX12_request_167 : decode cX12_request 167 = .ok (.iconst 5, 1) := by decide +kernel
theorem dX12_request_168 : decode cX12_request 168 = .ok (.if_icmp .le 8, 3) := by decide +kernel
theorem dX12_request_171 : decode cX12_request 171 = .ok (.aload_n 0, 1) := by decide +kernel
theorem dX12_request_172 : decode cX12_request 172 = .ok (.iconst (-1), 1) := by decide +kernel
theorem dX12_request_173 : decode cX12_request 173 = .ok (.putfield 42, 3) := by decide +kernel
theorem dX12_request_176 : decode cX12_request 176 = .ok (.aload_n 0, 1) := by decide +kernel
theorem dX12_request_177 : decode cX12_request 177 = .ok (.getfield 22, 3) := by decide +kernel
theorem dX12_request_180 : decode cX12_request 180 = .ok (.iconst 0, 1) := by decide +kernel
theorem dX12_request_181 : decode cX12_request 181 = .ok (.iaload, 1) := by decide +kernel
theorem dX12_request_182 : decode cX12_request 182 = .ok (.aload_n 0, 1) := by decide +kernel
theorem dX12_request_183 : decode cX12_request 183 = .ok (.getfield 22, 3) := by decide +kernel
theorem dX12_request_186 : decode cX12_request 186 = .ok (.iconst 1, 1) := by decide +kernel
theorem dX12_request_187 : decode cX12_request 187 = .ok (.iaload, 1) := by decide +kernel
theorem dX12_request_188 : decode cX12_request 188 = .ok (.iadd, 1) := by decide +kernel
theorem dX12_request_189 : decode cX12_request 189 = .ok (.ifCond .le 23, 3) := by decide +kernel
theorem dX12_request_192 : decode cX12_request 192 = .ok (.aload_n 0, 1) := by decide +kernel
theorem dX12_request_193 : decode cX12_request 193 = .ok (.iload_n 1, 1) := by decide +kernel
theorem dX12_request_194 : decode cX12_request 194 = .ok (.putfield 46, 3) := by decide +kernel
theorem dX12_request_197 : decode cX12_request 197 = .ok (.aload_n 0, 1) := by decide +kernel
theorem dX12_request_198 : decode cX12_request 198 = .ok (.getfield 49, 3) := by decide +kernel
theorem dX12_request_201 : decode cX12_request 201 = .ok (.iconst 0, 1) := by decide +kernel
theorem dX12_request_202 : decode cX12_request 202 = .ok (.aload_n 0, 1) := by decide +kernel
theorem dX12_request_203 : decode cX12_request 203 = .ok (.getfield 49, 3) := by decide +kernel
theorem dX12_request_206 : decode cX12_request 206 = .ok (.iconst 0, 1) := by decide +kernel
theorem dX12_request_207 : decode cX12_request 207 = .ok (.iaload, 1) := by decide +kernel
theorem dX12_request_208 : decode cX12_request 208 = .ok (.bipush 32, 2) := by decide +kernel
theorem dX12_request_210 : decode cX12_request 210 = .ok (.iadd, 1) := by decide +kernel
theorem dX12_request_211 : decode cX12_request 211 = .ok (.iastore, 1) := by decide +kernel
theorem dX12_request_212 : decode cX12_request 212 = .ok (.aload_n 0, 1) := by decide +kernel
theorem dX12_request_213 : decode cX12_request 213 = .ok (.aload_n 0, 1) := by decide +kernel
theorem dX12_request_214 : decode cX12_request 214 = .ok (.getfield 25, 3) := by decide +kernel
theorem dX12_request_217 : decode cX12_request 217 = .ok (.iconst 0, 1) := by decide +kernel
theorem dX12_request_218 : decode cX12_request 218 = .ok (.baload, 1) := by decide +kernel
theorem dX12_request_219 : decode cX12_request 219 = .ok (.ifCond .ne 12, 3) := by decide +kernel
theorem dX12_request_222 : decode cX12_request 222 = .ok (.aload_n 0, 1) := by decide +kernel
theorem dX12_request_223 : decode cX12_request 223 = .ok (.getfield 25, 3) := by decide +kernel
theorem dX12_request_226 : decode cX12_request 226 = .ok (.iconst 1, 1) := by decide +kernel
theorem dX12_request_227 : decode cX12_request 227 = .ok (.baload, 1) := by decide +kernel
theorem dX12_request_228 : decode cX12_request 228 = .ok (.ifCond .eq 7, 3) := by decide +kernel
theorem dX12_request_231 : decode cX12_request 231 = .ok (.iconst 1, 1) := by decide +kernel
theorem dX12_request_232 : decode cX12_request 232 = .ok (.goto 4, 3) := by decide +kernel
theorem dX12_request_235 : decode cX12_request 235 = .ok (.iconst 0, 1) := by decide +kernel
theorem dX12_request_236 : decode cX12_request 236 = .ok (.putfield 144, 3) := by decide +kernel
theorem dX12_request_239 : decode cX12_request 239 = .ok (.aload_n 0, 1) := by decide +kernel
theorem dX12_request_240 : decode cX12_request 240 = .ok (.getfield 49, 3) := by decide +kernel
theorem dX12_request_243 : decode cX12_request 243 = .ok (.iconst 2, 1) := by decide +kernel
theorem dX12_request_244 : decode cX12_request 244 = .ok (.aload_n 0, 1) := by decide +kernel
theorem dX12_request_245 : decode cX12_request 245 = .ok (.getfield 19, 3) := by decide +kernel
theorem dX12_request_248 : decode cX12_request 248 = .ok (.iconst 0, 1) := by decide +kernel
theorem dX12_request_249 : decode cX12_request 249 = .ok (.iaload, 1) := by decide +kernel
theorem dX12_request_250 : decode cX12_request 250 = .ok (.ifCond .le 7, 3) := by decide +kernel
theorem dX12_request_253 : decode cX12_request 253 = .ok (.iconst 2, 1) := by decide +kernel
theorem dX12_request_254 : decode cX12_request 254 = .ok (.goto 4, 3) := by decide +kernel
theorem dX12_request_257 : decode cX12_request 257 = .ok (.iconst 0, 1) := by decide +kernel
theorem dX12_request_258 : decode cX12_request 258 = .ok (.aload_n 0, 1) := by decide +kernel
theorem dX12_request_259 : decode cX12_request 259 = .ok (.getfield 19, 3) := by decide +kernel
theorem dX12_request_262 : decode cX12_request 262 = .ok (.iconst 1, 1) := by decide +kernel
theorem dX12_request_263 : decode cX12_request 263 = .ok (.iaload, 1) := by decide +kernel
theorem dX12_request_264 : decode cX12_request 264 = .ok (.ifCond .le 7, 3) := by decide +kernel
theorem dX12_request_267 : decode cX12_request 267 = .ok (.iconst 4, 1) := by decide +kernel
theorem dX12_request_268 : decode cX12_request 268 = .ok (.goto 4, 3) := by decide +kernel
theorem dX12_request_271 : decode cX12_request 271 = .ok (.iconst 0, 1) := by decide +kernel
theorem dX12_request_272 : decode cX12_request 272 = .ok (.iadd, 1) := by decide +kernel
theorem dX12_request_273 : decode cX12_request 273 = .ok (.aload_n 0, 1) := by decide +kernel
theorem dX12_request_274 : decode cX12_request 274 = .ok (.getfield 29, 3) := by decide +kernel
theorem dX12_request_277 : decode cX12_request 277 = .ok (.ifCond .eq 9, 3) := by decide +kernel
theorem dX12_request_280 : decode cX12_request 280 = .ok (.sipush 128, 3) := by decide +kernel
theorem dX12_request_283 : decode cX12_request 283 = .ok (.goto 4, 3) := by decide +kernel
theorem dX12_request_286 : decode cX12_request 286 = .ok (.iconst 0, 1) := by decide +kernel
theorem dX12_request_287 : decode cX12_request 287 = .ok (.iadd, 1) := by decide +kernel
theorem dX12_request_288 : decode cX12_request 288 = .ok (.iastore, 1) := by decide +kernel
theorem dX12_request_289 : decode cX12_request 289 = .ok (.aload_n 0, 1) := by decide +kernel
theorem dX12_request_290 : decode cX12_request 290 = .ok (.getfield 49, 3) := by decide +kernel
theorem dX12_request_293 : decode cX12_request 293 = .ok (.iconst 3, 1) := by decide +kernel
theorem dX12_request_294 : decode cX12_request 294 = .ok (.aload_n 0, 1) := by decide +kernel
theorem dX12_request_295 : decode cX12_request 295 = .ok (.getfield 129, 3) := by decide +kernel
theorem dX12_request_298 : decode cX12_request 298 = .ok (.aload_n 0, 1) := by decide +kernel
theorem dX12_request_299 : decode cX12_request 299 = .ok (.getfield 144, 3) := by decide +kernel
theorem dX12_request_302 : decode cX12_request 302 = .ok (.ifCond .eq 8, 3) := by decide +kernel
theorem dX12_request_305 : decode cX12_request 305 = .ok (.bipush 8, 2) := by decide +kernel
theorem dX12_request_307 : decode cX12_request 307 = .ok (.goto 4, 3) := by decide +kernel
theorem dX12_request_310 : decode cX12_request 310 = .ok (.iconst 0, 1) := by decide +kernel
theorem dX12_request_311 : decode cX12_request 311 = .ok (.iadd, 1) := by decide +kernel
theorem dX12_request_312 : decode cX12_request 312 = .ok (.iastore, 1) := by decide +kernel
theorem dX12_request_313 : decode cX12_request 313 = .ok (.aload_n 0, 1) := by decide +kernel
theorem dX12_request_314 : decode cX12_request 314 = .ok (.invokevirtual 147, 3) := by decide +kernel
theorem dX12_request_317 : decode cX12_request 317 = .ok (.return_, 1) := by decide +kernel
theorem dX12_confirmed_0 : decode cX12_confirmed 0 = .ok (.aload_n 0, 1) := by decide +kernel
theorem dX12_confirmed_1 : decode cX12_confirmed 1 = .ok (.iconst (-1), 1) := by decide +kernel
theorem dX12_confirmed_2 : decode cX12_confirmed 2 = .ok (.putfield 46, 3) := by decide +kernel
theorem dX12_confirmed_5 : decode cX12_confirmed 5 = .ok (.iconst 0, 1) := by decide +kernel
theorem dX12_confirmed_6 : decode cX12_confirmed 6 = .ok (.istore_n 1, 1) := by decide +kernel
theorem dX12_confirmed_7 : decode cX12_confirmed 7 = .ok (.iload_n 1, 1) := by decide +kernel
theorem dX12_confirmed_8 : decode cX12_confirmed 8 = .ok (.iconst 2, 1) := by decide +kernel
theorem dX12_confirmed_9 : decode cX12_confirmed 9 = .ok (.if_icmp .ge 27, 3) := by decide +kernel
theorem dX12_confirmed_12 : decode cX12_confirmed 12 = .ok (.aload_n 0, 1) := by decide +kernel
theorem dX12_confirmed_13 : decode cX12_confirmed 13 = .ok (.iload_n 1, 1) := by decide +kernel
theorem dX12_confirmed_14 : decode cX12_confirmed 14 = .ok (.aload_n 0, 1) := by decide +kernel
theorem dX12_confirmed_15 : decode cX12_confirmed 15 = .ok (.getfield 22, 3) := by decide +kernel
theorem dX12_confirmed_18 : decode cX12_confirmed 18 = .ok (.iload_n 1, 1) := by decide +kernel
theorem dX12_confirmed_19 : decode cX12_confirmed 19 = .ok (.iaload, 1) := by decide +kernel
theorem dX12_confirmed_20 : decode cX12_confirmed 20 = .ok (.invokevirtual 69, 3) := by decide +kernel
theorem dX12_confirmed_23 : decode cX12_confirmed 23 = .ok (.aload_n 0, 1) := by decide +kernel
theorem dX12_confirmed_24 : decode cX12_confirmed 24 = .ok (.getfield 25, 3) := by decide +kernel
theorem dX12_confirmed_27 : decode cX12_confirmed 27 = .ok (.iload_n 1, 1) := by decide +kernel
theorem dX12_confirmed_28 : decode cX12_confirmed 28 = .ok (.iconst 0, 1) := by decide +kernel
theorem dX12_confirmed_29 : decode cX12_confirmed 29 = .ok (.bastore, 1) := by decide +kernel
theorem dX12_confirmed_30 : decode cX12_confirmed 30 = .ok (.iinc 1 1, 3) := by decide +kernel
theorem dX12_confirmed_33 : decode cX12_confirmed 33 = .ok (.goto (-26), 3) := by decide +kernel
theorem dX12_confirmed_36 : decode cX12_confirmed 36 = .ok (.return_, 1) := by decide +kernel
theorem dX12_room_0 : decode cX12_room 0 = .ok (.bipush 62, 2) := by decide +kernel
theorem dX12_room_2 : decode cX12_room 2 = .ok (.aload_n 0, 1) := by decide +kernel
theorem dX12_room_3 : decode cX12_room 3 = .ok (.getfield 123, 3) := by decide +kernel
theorem dX12_room_6 : decode cX12_room 6 = .ok (.isub, 1) := by decide +kernel
theorem dX12_room_7 : decode cX12_room 7 = .ok (.ireturn, 1) := by decide +kernel
theorem dX12_addValue_0 : decode cX12_addValue 0 = .ok (.aload_n 0, 1) := by decide +kernel
theorem dX12_addValue_1 : decode cX12_addValue 1 = .ok (.iload_n 1, 1) := by decide +kernel
theorem dX12_addValue_2 : decode cX12_addValue 2 = .ok (.ifCond .ne 13, 3) := by decide +kernel
theorem dX12_addValue_5 : decode cX12_addValue 5 = .ok (.iconst 1, 1) := by decide +kernel
theorem dX12_addValue_6 : decode cX12_addValue 6 = .ok (.sipush 128, 3) := by decide +kernel
theorem dX12_addValue_9 : decode cX12_addValue 9 = .ok (.iload_n 2, 1) := by decide +kernel
theorem dX12_addValue_10 : decode cX12_addValue 10 = .ok (.imul, 1) := by decide +kernel
theorem dX12_addValue_11 : decode cX12_addValue 11 = .ok (.iadd, 1) := by decide +kernel
theorem dX12_addValue_12 : decode cX12_addValue 12 = .ok (.goto 4, 3) := by decide +kernel
theorem dX12_addValue_15 : decode cX12_addValue 15 = .ok (.iconst 1, 1) := by decide +kernel
theorem dX12_addValue_16 : decode cX12_addValue 16 = .ok (.invokevirtual 132, 3) := by decide +kernel
theorem dX12_addValue_19 : decode cX12_addValue 19 = .ok (.iconst 0, 1) := by decide +kernel
theorem dX12_addValue_20 : decode cX12_addValue 20 = .ok (.istore_n 3, 1) := by decide +kernel
theorem dX12_addValue_21 : decode cX12_addValue 21 = .ok (.iload_n 3, 1) := by decide +kernel
theorem dX12_addValue_22 : decode cX12_addValue 22 = .ok (.iconst 4, 1) := by decide +kernel
theorem dX12_addValue_23 : decode cX12_addValue 23 = .ok (.if_icmp .ge 24, 3) := by decide +kernel
theorem dX12_addValue_26 : decode cX12_addValue 26 = .ok (.iload_n 1, 1) := by decide +kernel
theorem dX12_addValue_27 : decode cX12_addValue 27 = .ok (.iconst 1, 1) := by decide +kernel
theorem dX12_addValue_28 : decode cX12_addValue 28 = .ok (.if_icmp .ne 19, 3) := by decide +kernel
theorem dX12_addValue_31 : decode cX12_addValue 31 = .ok (.aload_n 0, 1) := by decide +kernel
theorem dX12_addValue_32 : decode cX12_addValue 32 = .ok (.iload_n 2, 1) := by decide +kernel
theorem dX12_addValue_33 : decode cX12_addValue 33 = .ok (.bipush 8, 2) := by decide +kernel
theorem dX12_addValue_35 : decode cX12_addValue 35 = .ok (.iload_n 3, 1) := by decide +kernel
theorem dX12_addValue_36 : decode cX12_addValue 36 = .ok (.imul, 1) := by decide +kernel
theorem dX12_addValue_37 : decode cX12_addValue 37 = .ok (.ishr, 1) := by decide +kernel
theorem dX12_addValue_38 : decode cX12_addValue 38 = .ok (.invokevirtual 132, 3) := by decide +kernel
theorem dX12_addValue_41 : decode cX12_addValue 41 = .ok (.iinc 3 1, 3) := by decide +kernel
theorem dX12_addValue_44 : decode cX12_addValue 44 = .ok (.goto (-23), 3) := by decide +kernel
theorem dX12_addValue_47 : decode cX12_addValue 47 = .ok (.return_, 1) := by decide +kernel
theorem dX12_addPoints_0 : decode cX12_addPoints 0 = .ok (.aload_n 0, 1) := by decide +kernel
theorem dX12_addPoints_1 : decode cX12_addPoints 1 = .ok (.iload_n 1, 1) := by decide +kernel
theorem dX12_addPoints_2 : decode cX12_addPoints 2 = .ok (.ifCond .ne 7, 3) := by decide +kernel
theorem dX12_addPoints_5 : decode cX12_addPoints 5 = .ok (.iconst 1, 1) := by decide +kernel
theorem dX12_addPoints_6 : decode cX12_addPoints 6 = .ok (.goto 5, 3) := by decide +kernel
theorem dX12_addPoints_9 : decode cX12_addPoints 9 = .ok (.bipush 30, 2) := by decide +kernel
theorem dX12_addPoints_11 : decode cX12_addPoints 11 = .ok (.invokevirtual 132, 3) := by decide +kernel
theorem dX12_addPoints_14 : decode cX12_addPoints 14 = .ok (.aload_n 0, 1) := by decide +kernel
theorem dX12_addPoints_15 : decode cX12_addPoints 15 = .ok (.iconst 2, 1) := by decide +kernel
theorem dX12_addPoints_16 : decode cX12_addPoints 16 = .ok (.iload_n 1, 1) := by decide +kernel
theorem dX12_addPoints_17 : decode cX12_addPoints 17 = .ok (.isub, 1) := by decide +kernel
theorem dX12_addPoints_18 : decode cX12_addPoints 18 = .ok (.invokevirtual 132, 3) := by decide +kernel
theorem dX12_addPoints_21 : decode cX12_addPoints 21 = .ok (.aload_n 0, 1) := by decide +kernel
theorem dX12_addPoints_22 : decode cX12_addPoints 22 = .ok (.iconst 0, 1) := by decide +kernel
theorem dX12_addPoints_23 : decode cX12_addPoints 23 = .ok (.invokevirtual 132, 3) := by decide +kernel
theorem dX12_addPoints_26 : decode cX12_addPoints 26 = .ok (.aload_n 0, 1) := by decide +kernel
theorem dX12_addPoints_27 : decode cX12_addPoints 27 = .ok (.iload_n 2, 1) := by decide +kernel
theorem dX12_addPoints_28 : decode cX12_addPoints 28 = .ok (.invokevirtual 132, 3) := by decide +kernel
theorem dX12_addPoints_31 : decode cX12_addPoints 31 = .ok (.aload_n 0, 1) := by decide +kernel
theorem dX12_addPoints_32 : decode cX12_addPoints 32 = .ok (.iload_n 3, 1) := by decide +kernel
theorem dX12_addPoints_33 : decode cX12_addPoints 33 = .ok (.invokevirtual 132, 3) := by decide +kernel
theorem dX12_addPoints_36 : decode cX12_addPoints 36 = .ok (.iload_n 2, 1) := by decide +kernel
theorem dX12_addPoints_37 : decode cX12_addPoints 37 = .ok (.istore 4, 2) := by decide +kernel
theorem dX12_addPoints_39 : decode cX12_addPoints 39 = .ok (.iload 4, 2) := by decide +kernel
theorem dX12_addPoints_41 : decode cX12_addPoints 41 = .ok (.iload_n 3, 1) := by decide +kernel
theorem dX12_addPoints_42 : decode cX12_addPoints 42 = .ok (.if_icmp .gt 26, 3) := by decide +kernel
theorem dX12_addPoints_45 : decode cX12_addPoints 45 = .ok (.aload_n 0, 1) := by decide +kernel
theorem dX12_addPoints_46 : decode cX12_addPoints 46 = .ok (.iload_n 1, 1) := by decide +kernel
theorem dX12_addPoints_47 : decode cX12_addPoints 47 = .ok (.aload_n 0, 1) := by decide +kernel
theorem dX12_addPoints_48 : decode cX12_addPoints 48 = .ok (.getfield 7, 3) := by decide +kernel
theorem dX12_addPoints_51 : decode cX12_addPoints 51 = .ok (.bipush 8, 2) := by decide +kernel
theorem dX12_addPoints_53 : decode cX12_addPoints 53 = .ok (.iload_n 1, 1) := by decide +kernel
theorem dX12_addPoints_54 : decode cX12_addPoints 54 = .ok (.imul, 1) := by decide +kernel
theorem dX12_addPoints_55 : decode cX12_addPoints 55 = .ok (.iload 4, 2) := by decide +kernel
theorem dX12_addPoints_57 : decode cX12_addPoints 57 = .ok (.iadd, 1) := by decide +kernel
theorem dX12_addPoints_58 : decode cX12_addPoints 58 = .ok (.iaload, 1) := by decide +kernel
theorem dX12_addPoints_59 : decode cX12_addPoints 59 = .ok (.invokevirtual 150, 3) := by decide +kernel
theorem dX12_addPoints_62 : decode cX12_addPoints 62 = .ok (.iinc 4 1, 3) := by decide +kernel
theorem dX12_addPoints_65 : decode cX12_addPoints 65 = .ok (.goto (-26), 3) := by decide +kernel
theorem dX12_addPoints_68 : decode cX12_addPoints 68 = .ok (.return_, 1) := by decide +kernel
theorem dX12_pointsSize_0 : decode cX12_pointsSize 0 = .ok (.iconst 5, 1) := by decide +kernel
theorem dX12_pointsSize_1 : decode cX12_pointsSize 1 = .ok (.iload_n 0, 1) := by decide +kernel
theorem dX12_pointsSize_2 : decode cX12_pointsSize 2 = .ok (.ifCond .ne 7, 3) := by decide +kernel
theorem dX12_pointsSize_5 : decode cX12_pointsSize 5 = .ok (.iload_n 1, 1) := by decide +kernel
theorem dX12_pointsSize_6 : decode cX12_pointsSize 6 = .ok (.goto 6, 3) := by decide +kernel
theorem dX12_pointsSize_9 : decode cX12_pointsSize 9 = .ok (.iconst 5, 1) := by decide +kernel
theorem dX12_pointsSize_10 : decode cX12_pointsSize 10 = .ok (.iload_n 1, 1) := by decide +kernel
theorem dX12_pointsSize_11 : decode cX12_pointsSize 11 = .ok (.imul, 1) := by decide +kernel
theorem dX12_pointsSize_12 : decode cX12_pointsSize 12 = .ok (.iadd, 1) := by decide +kernel
theorem dX12_pointsSize_13 : decode cX12_pointsSize 13 = .ok (.ireturn, 1) := by decide +kernel
theorem dX12_addEvents_0 : decode cX12_addEvents 0 = .ok (.iload_n 1, 1) := by decide +kernel
theorem dX12_addEvents_1 : decode cX12_addEvents 1 = .ok (.ifCond .ne 7, 3) := by decide +kernel
theorem dX12_addEvents_4 : decode cX12_addEvents 4 = .ok (.iconst 2, 1) := by decide +kernel
theorem dX12_addEvents_5 : decode cX12_addEvents 5 = .ok (.goto 5, 3) := by decide +kernel
theorem dX12_addEvents_8 : decode cX12_addEvents 8 = .ok (.bipush 6, 2) := by decide +kernel
theorem dX12_addEvents_10 : decode cX12_addEvents 10 = .ok (.istore_n 3, 1) := by decide +kernel
theorem dX12_addEvents_11 : decode cX12_addEvents 11 = .ok (.iconst 0, 1) := by decide +kernel
theorem dX12_addEvents_12 : decode cX12_addEvents 12 = .ok (.istore 4, 2) := by decide +kernel
theorem dX12_addEvents_14 : decode cX12_addEvents 14 = .ok (.iload 4, 2) := by decide +kernel
theorem dX12_addEvents_16 : decode cX12_addEvents 16 = .ok (.iload_n 2, 1) := by decide +kernel
theorem dX12_addEvents_17 : decode cX12_addEvents 17 = .ok (.if_icmp .ge 42, 3) := by decide +kernel
theorem dX12_addEvents_20 : decode cX12_addEvents 20 = .ok (.aload_n 0, 1) := by decide +kernel
theorem dX12_addEvents_21 : decode cX12_addEvents 21 = .ok (.getfield 22, 3) := by decide +kernel
theorem dX12_addEvents_24 : decode cX12_addEvents 24 = .ok (.iload_n 1, 1) := by decide +kernel
theorem dX12_addEvents_25 : decode cX12_addEvents 25 = .ok (.iaload, 1) := by decide +kernel
theorem dX12_addEvents_26 : decode cX12_addEvents 26 = .ok (.iload 4, 2) := by decide +kernel
theorem dX12_addEvents_28 : decode cX12_addEvents 28 = .ok (.iadd, 1) := by decide +kernel
theorem dX12_addEvents_29 : decode cX12_addEvents 29 = .ok (.aload_n 0, 1) := by decide +kernel
theorem dX12_addEvents_30 : decode cX12_addEvents 30 = .ok (.getfield 19, 3) := by decide +kernel
theorem dX12_addEvents_33 : decode cX12_addEvents 33 = .ok (.iload_n 1, 1) := by decide +kernel
theorem dX12_addEvents_34 : decode cX12_addEvents 34 = .ok (.iaload, 1) := by decide +kernel
theorem dX12_addEvents_35 : decode cX12_addEvents 35 = .ok (.if_icmp .ge 24, 3) := by decide +kernel
theorem dX12_addEvents_38 : decode cX12_addEvents 38 = .ok (.iconst 4, 1) := by decide +kernel
theorem dX12_addEvents_39 : decode cX12_addEvents 39 = .ok (.iload_n 3, 1) := by decide +kernel
theorem dX12_addEvents_40 : decode cX12_addEvents 40 = .ok (.iload 4, 2) := by decide +kernel
theorem dX12_addEvents_42 : decode cX12_addEvents 42 = .ok (.iconst 1, 1) := by decide +kernel
theorem dX12_addEvents_43 : decode cX12_addEvents 43 = .ok (.iadd, 1) := by decide +kernel
theorem dX12_addEvents_44 : decode cX12_addEvents 44 = .ok (.imul, 1) := by decide +kernel
theorem dX12_addEvents_45 : decode cX12_addEvents 45 = .ok (.iadd, 1) := by decide +kernel
theorem dX12_addEvents_46 : decode cX12_addEvents 46 = .ok (.aload_n 0, 1) := by decide +kernel
theorem dX12_addEvents_47 : decode cX12_addEvents 47 = .ok (.invokevirtual 153, 3) := by decide +kernel
theorem dX12_addEvents_50 : decode cX12_addEvents 50 = .ok (.if_icmp .gt 9, 3) := by decide +kernel
theorem dX12_addEvents_53 : decode cX12_addEvents 53 = .ok (.iinc 4 1, 3) := by decide +kernel
theorem dX12_addEvents_56 : decode cX12_addEvents 56 = .ok (.goto (-42), 3) := by decide +kernel
theorem dX12_addEvents_59 : decode cX12_addEvents 59 = .ok (.iload 4, 2) := by decide +kernel
theorem dX12_addEvents_61 : decode cX12_addEvents 61 = .ok (.ifCond .ne 4, 3) := by decide +kernel
theorem dX12_addEvents_64 : decode cX12_addEvents 64 = .ok (.return_, 1) := by decide +kernel
theorem dX12_addEvents_65 : decode cX12_addEvents 65 = .ok (.aload_n 0, 1) := by decide +kernel
theorem dX12_addEvents_66 : decode cX12_addEvents 66 = .ok (.iload_n 1, 1) := by decide +kernel
theorem dX12_addEvents_67 : decode cX12_addEvents 67 = .ok (.ifCond .ne 7, 3) := by decide +kernel
theorem dX12_addEvents_70 : decode cX12_addEvents 70 = .ok (.iconst 2, 1) := by decide +kernel
theorem dX12_addEvents_71 : decode cX12_addEvents 71 = .ok (.goto 5, 3) := by decide +kernel
theorem dX12_addEvents_74 : decode cX12_addEvents 74 = .ok (.bipush 32, 2) := by decide +kernel
theorem dX12_addEvents_76 : decode cX12_addEvents 76 = .ok (.invokevirtual 132, 3) := by decide +kernel
theorem dX12_addEvents_79 : decode cX12_addEvents 79 = .ok (.aload_n 0, 1) := by decide +kernel
theorem dX12_addEvents_80 : decode cX12_addEvents 80 = .ok (.iconst 1, 1) := by decide +kernel
theorem dX12_addEvents_81 : decode cX12_addEvents 81 = .ok (.invokevirtual 132, 3) := by decide +kernel
theorem dX12_addEvents_84 : decode cX12_addEvents 84 = .ok (.aload_n 0, 1) := by decide +kernel
theorem dX12_addEvents_85 : decode cX12_addEvents 85 = .ok (.bipush 23, 2) := by decide +kernel
theorem dX12_addEvents_87 : decode cX12_addEvents 87 = .ok (.invokevirtual 132, 3) := by decide +kernel
theorem dX12_addEvents_90 : decode cX12_addEvents 90 = .ok (.aload_n 0, 1) := by decide +kernel
theorem dX12_addEvents_91 : decode cX12_addEvents 91 = .ok (.iload 4, 2) := by decide +kernel
theorem dX12_addEvents_93 : decode cX12_addEvents 93 = .ok (.invokevirtual 132, 3) := by decide +kernel
theorem dX12_addEvents_96 : decode cX12_addEvents 96 = .ok (.iconst 0, 1) := by decide +kernel
theorem dX12_addEvents_97 : decode cX12_addEvents 97 = .ok (.istore 5, 2) := by decide +kernel
theorem dX12_addEvents_99 : decode cX12_addEvents 99 = .ok (.iload 5, 2) := by decide +kernel
theorem dX12_addEvents_101 : decode cX12_addEvents 101 = .ok (.iload 4, 2) := by decide +kernel
theorem dX12_addEvents_103 : decode cX12_addEvents 103 = .ok (.if_icmp .ge 56, 3) := by decide +kernel
theorem dX12_addEvents_106 : decode cX12_addEvents 106 = .ok (.aload_n 0, 1) := by decide +kernel
theorem dX12_addEvents_107 : decode cX12_addEvents 107 = .ok (.aload_n 0, 1) := by decide +kernel
theorem dX12_addEvents_108 : decode cX12_addEvents 108 = .ok (.getfield 13, 3) := by decide +kernel
theorem dX12_addEvents_111 : decode cX12_addEvents 111 = .ok (.bipush 6, 2) := by decide +kernel
theorem dX12_addEvents_113 : decode cX12_addEvents 113 = .ok (.iload_n 1, 1) := by decide +kernel
theorem dX12_addEvents_114 : decode cX12_addEvents 114 = .ok (.imul, 1) := by decide +kernel
theorem dX12_addEvents_115 : decode cX12_addEvents 115 = .ok (.aload_n 0, 1) := by decide +kernel
theorem dX12_addEvents_116 : decode cX12_addEvents 116 = .ok (.getfield 22, 3) := by decide +kernel
theorem dX12_addEvents_119 : decode cX12_addEvents 119 = .ok (.iload_n 1, 1) := by decide +kernel
theorem dX12_addEvents_120 : decode cX12_addEvents 120 = .ok (.iaload, 1) := by decide +kernel
theorem dX12_addEvents_121 : decode cX12_addEvents 121 = .ok (.iadd, 1) := by decide +kernel
theorem dX12_addEvents_122 : decode cX12_addEvents 122 = .ok (.iload 5, 2) := by decide +kernel
theorem dX12_addEvents_124 : decode cX12_addEvents 124 = .ok (.iadd, 1) := by decide +kernel
theorem dX12_addEvents_125 : decode cX12_addEvents 125 = .ok (.iaload, 1) := by decide +kernel
theorem dX12_addEvents_126 : decode cX12_addEvents 126 = .ok (.invokevirtual 132, 3) := by decide +kernel
theorem dX12_addEvents_129 : decode cX12_addEvents 129 = .ok (.aload_n 0, 1) := by decide +kernel
theorem dX12_addEvents_130 : decode cX12_addEvents 130 = .ok (.iload_n 1, 1) := by decide +kernel
theorem dX12_addEvents_131 : decode cX12_addEvents 131 = .ok (.aload_n 0, 1) := by decide +kernel
theorem dX12_addEvents_132 : decode cX12_addEvents 132 = .ok (.getfield 16, 3) := by decide +kernel
theorem dX12_addEvents_135 : decode cX12_addEvents 135 = .ok (.bipush 6, 2) := by decide +kernel
theorem dX12_addEvents_137 : decode cX12_addEvents 137 = .ok (.iload_n 1, 1) := by decide +kernel
theorem dX12_addEvents_138 : decode cX12_addEvents 138 = .ok (.imul, 1) := by decide +kernel
theorem dX12_addEvents_139 : decode cX12_addEvents 139 = .ok (.aload_n 0, 1) := by decide +kernel
theorem dX12_addEvents_140 : decode cX12_addEvents 140 = .ok (.getfield 22, 3) := by decide +kernel
theorem dX12_addEvents_143 : decode cX12_addEvents 143 = .ok (.iload_n 1, 1) := by decide +kernel
theorem dX12_addEvents_144 : decode cX12_addEvents 144 = .ok (.iaload, 1) := by decide +kernel
theorem dX12_addEvents_145 : decode cX12_addEvents 145 = .ok (.iadd, 1) := by decide +kernel
theorem dX12_addEvents_146 : decode cX12_addEvents 146 = .ok (.iload 5, 2) := by decide +kernel
theorem dX12_addEvents_148 : decode cX12_addEvents 148 = .ok (.iadd, 1) := by decide +kernel
theorem dX12_addEvents_149 : decode cX12_addEvents 149 = .ok (.iaload, 1) := by decide +kernel
theorem dX12_addEvents_150 : decode cX12_addEvents 150 = .ok (.invokevirtual 150, 3) := by decide +kernel
theorem dX12_addEvents_153 : decode cX12_addEvents 153 = .ok (.iinc 5 1, 3) := by decide +kernel
theorem dX12_addEvents_156 : decode cX12_addEvents 156 = .ok (.goto (-57), 3) := by decide +kernel
theorem dX12_addEvents_159 : decode cX12_addEvents 159 = .ok (.aload_n 0, 1) := by decide +kernel
theorem dX12_addEvents_160 : decode cX12_addEvents 160 = .ok (.getfield 22, 3) := by decide +kernel
theorem dX12_addEvents_163 : decode cX12_addEvents 163 = .ok (.iload_n 1, 1) := by decide +kernel
theorem dX12_addEvents_164 : decode cX12_addEvents 164 = .ok (.aload_n 0, 1) := by decide +kernel
theorem dX12_addEvents_165 : decode cX12_addEvents 165 = .ok (.getfield 22, 3) := by decide +kernel
theorem dX12_addEvents_168 : decode cX12_addEvents 168 = .ok (.iload_n 1, 1) := by decide +kernel
theorem dX12_addEvents_169 : decode cX12_addEvents 169 = .ok (.iaload, 1) := by decide +kernel
theorem dX12_addEvents_170 : decode cX12_addEvents 170 = .ok (.iload 4, 2) := by decide +kernel
theorem dX12_addEvents_172 : decode cX12_addEvents 172 = .ok (.iadd, 1) := by decide +kernel
theorem dX12_addEvents_173 : decode cX12_addEvents 173 = .ok (.iastore, 1) := by decide +kernel
theorem dX12_addEvents_174 : decode cX12_addEvents 174 = .ok (.return_, 1) := by decide +kernel
theorem dX12_readOne_0 : decode cX12_readOne 0 = .ok (.iload_n 1, 1) := by decide +kernel
theorem dX12_readOne_1 : decode cX12_readOne 1 = .ok (.bipush 60, 2) := by decide +kernel
theorem dX12_readOne_3 : decode cX12_readOne 3 = .ok (.if_icmp .ne 53, 3) := by decide +kernel
theorem dX12_readOne_6 : decode cX12_readOne 6 = .ok (.iload_n 2, 1) := by decide +kernel
theorem dX12_readOne_7 : decode cX12_readOne 7 = .ok (.iconst 1, 1) := by decide +kernel
theorem dX12_readOne_8 : decode cX12_readOne 8 = .ok (.if_icmp .ne 48, 3) := by decide +kernel
theorem dX12_readOne_11 : decode cX12_readOne 11 = .ok (.iconst 0, 1) := by decide +kernel
theorem dX12_readOne_12 : decode cX12_readOne 12 = .ok (.bipush 8, 2) := by decide +kernel
theorem dX12_readOne_14 : decode cX12_readOne 14 = .ok (.invokestatic 157, 3) := by decide +kernel
theorem dX12_readOne_17 : decode cX12_readOne 17 = .ok (.iconst 1, 1) := by decide +kernel
theorem dX12_readOne_18 : decode cX12_readOne 18 = .ok (.bipush 8, 2) := by decide +kernel
theorem dX12_readOne_20 : decode cX12_readOne 20 = .ok (.invokestatic 157, 3) := by decide +kernel
theorem dX12_readOne_23 : decode cX12_readOne 23 = .ok (.iadd, 1) := by decide +kernel
theorem dX12_readOne_24 : decode cX12_readOne 24 = .ok (.aload_n 0, 1) := by decide +kernel
theorem dX12_readOne_25 : decode cX12_readOne 25 = .ok (.invokevirtual 153, 3) := by decide +kernel
theorem dX12_readOne_28 : decode cX12_readOne 28 = .ok (.if_icmp .le 9, 3) := by decide +kernel
theorem dX12_readOne_31 : decode cX12_readOne 31 = .ok (.aload_n 0, 1) := by decide +kernel
theorem dX12_readOne_32 : decode cX12_readOne 32 = .ok (.iconst 4, 1) := by decide +kernel
theorem dX12_readOne_33 : decode cX12_readOne 33 = .ok (.putfield 129, 3) := by decide +kernel
theorem dX12_readOne_36 : decode cX12_readOne 36 = .ok (.return_, 1) := by decide +kernel
theorem dX12_readOne_37 : decode cX12_readOne 37 = .ok (.aload_n 0, 1) := by decide +kernel
theorem dX12_readOne_38 : decode cX12_readOne 38 = .ok (.iconst 0, 1) := by decide +kernel
theorem dX12_readOne_39 : decode cX12_readOne 39 = .ok (.iconst 0, 1) := by decide +kernel
theorem dX12_readOne_40 : decode cX12_readOne 40 = .ok (.bipush 7, 2) := by decide +kernel
theorem dX12_readOne_42 : decode cX12_readOne 42 = .ok (.invokevirtual 160, 3) := by decide +kernel
theorem dX12_readOne_45 : decode cX12_readOne 45 = .ok (.aload_n 0, 1) := by decide +kernel
theorem dX12_readOne_46 : decode cX12_readOne 46 = .ok (.iconst 1, 1) := by decide +kernel
theorem dX12_readOne_47 : decode cX12_readOne 47 = .ok (.iconst 0, 1) := by decide +kernel
theorem dX12_readOne_48 : decode cX12_readOne 48 = .ok (.bipush 7, 2) := by decide +kernel
theorem dX12_readOne_50 : decode cX12_readOne 50 = .ok (.invokevirtual 160, 3) := by decide +kernel
theorem dX12_readOne_53 : decode cX12_readOne 53 = .ok (.goto 124, 3) := by decide +kernel
theorem dX12_readOne_56 : decode cX12_readOne 56 = .ok (.iload_n 1, 1) := by decide +kernel
theorem dX12_readOne_57 : decode cX12_readOne 57 = .ok (.bipush 60, 2) := by decide +kernel
theorem dX12_readOne_59 : decode cX12_readOne 59 = .ok (.if_icmp .ne 26, 3) := by decide +kernel
theorem dX12_readOne_62 : decode cX12_readOne 62 = .ok (.aload_n 0, 1) := by decide +kernel
theorem dX12_readOne_63 : decode cX12_readOne 63 = .ok (.iload_n 2, 1) := by decide +kernel
theorem dX12_readOne_64 : decode cX12_readOne 64 = .ok (.iconst 2, 1) := by decide +kernel
theorem dX12_readOne_65 : decode cX12_readOne 65 = .ok (.isub, 1) := by decide +kernel
theorem dX12_readOne_66 : decode cX12_readOne 66 = .ok (.iload_n 3, 1) := by decide +kernel
theorem dX12_readOne_67 : decode cX12_readOne 67 = .ok (.bipush 6, 2) := by decide +kernel
theorem dX12_readOne_69 : decode cX12_readOne 69 = .ok (.if_icmp .ne 8, 3) := by decide +kernel
theorem dX12_readOne_72 : decode cX12_readOne 72 = .ok (.bipush 6, 2) := by decide +kernel
theorem dX12_readOne_74 : decode cX12_readOne 74 = .ok (.goto 5, 3) := by decide +kernel
theorem dX12_readOne_77 : decode cX12_readOne 77 = .ok (.iload 4, 2) := by decide +kernel
theorem dX12_readOne_79 : decode cX12_readOne 79 = .ok (.invokevirtual 164, 3) := by decide +kernel
theorem dX12_readOne_82 : decode cX12_readOne 82 = .ok (.goto 95, 3) := by decide +kernel
theorem dX12_readOne_85 : decode cX12_readOne 85 = .ok (.iload_n 1, 1) := by decide +kernel
theorem dX12_readOne_86 : decode cX12_readOne 86 = .ok (.iconst 1, 1) := by decide +kernel
theorem dX12_readOne_87 : decode cX12_readOne 87 = .ok (.if_icmp .ne 7, 3) := by decide +kernel
theorem dX12_readOne_90 : decode cX12_readOne 90 = .ok (.iconst 0, 1) := by decide +kernel
theorem dX12_readOne_91 : decode cX12_readOne 91 = .ok (.goto 4, 3) := by decide +kernel
theorem dX12_readOne_94 : decode cX12_readOne 94 = .ok (.iconst 1, 1) := by decide +kernel
theorem dX12_readOne_95 : decode cX12_readOne 95 = .ok (.istore 6, 2) := by decide +kernel
theorem dX12_readOne_97 : decode cX12_readOne 97 = .ok (.iload_n 3, 1) := by decide +kernel
theorem dX12_readOne_98 : decode cX12_readOne 98 = .ok (.bipush 6, 2) := by decide +kernel
theorem dX12_readOne_100 : decode cX12_readOne 100 = .ok (.if_icmp .ne 7, 3) := by decide +kernel
theorem dX12_readOne_103 : decode cX12_readOne 103 = .ok (.iconst 0, 1) := by decide +kernel
theorem dX12_readOne_104 : decode cX12_readOne 104 = .ok (.goto 5, 3) := by decide +kernel
theorem dX12_readOne_107 : decode cX12_readOne 107 = .ok (.iload 4, 2) := by decide +kernel
theorem dX12_readOne_109 : decode cX12_readOne 109 = .ok (.istore 7, 2) := by decide +kernel
theorem dX12_readOne_111 : decode cX12_readOne 111 = .ok (.iload_n 3, 1) := by decide +kernel
theorem dX12_readOne_112 : decode cX12_readOne 112 = .ok (.bipush 6, 2) := by decide +kernel
theorem dX12_readOne_114 : decode cX12_readOne 114 = .ok (.if_icmp .ne 8, 3) := by decide +kernel
theorem dX12_readOne_117 : decode cX12_readOne 117 = .ok (.bipush 7, 2) := by decide +kernel
theorem dX12_readOne_119 : decode cX12_readOne 119 = .ok (.goto 5, 3) := by decide +kernel
theorem dX12_readOne_122 : decode cX12_readOne 122 = .ok (.iload 5, 2) := by decide +kernel
theorem dX12_readOne_124 : decode cX12_readOne 124 = .ok (.istore 8, 2) := by decide +kernel
theorem dX12_readOne_126 : decode cX12_readOne 126 = .ok (.iload 8, 2) := by decide +kernel
theorem dX12_readOne_128 : decode cX12_readOne 128 = .ok (.iload 7, 2) := by decide +kernel
theorem dX12_readOne_130 : decode cX12_readOne 130 = .ok (.if_icmp .lt 29, 3) := by decide +kernel
theorem dX12_readOne_133 : decode cX12_readOne 133 = .ok (.iload 8, 2) := by decide +kernel
theorem dX12_readOne_135 : decode cX12_readOne 135 = .ok (.bipush 7, 2) := by decide +kernel
theorem dX12_readOne_137 : decode cX12_readOne 137 = .ok (.if_icmp .gt 22, 3) := by decide +kernel
theorem dX12_readOne_140 : decode cX12_readOne 140 = .ok (.iload 6, 2) := by decide +kernel
theorem dX12_readOne_142 : decode cX12_readOne 142 = .ok (.iload 8, 2) := by decide +kernel
theorem dX12_readOne_144 : decode cX12_readOne 144 = .ok (.iload 7, 2) := by decide +kernel
theorem dX12_readOne_146 : decode cX12_readOne 146 = .ok (.isub, 1) := by decide +kernel
theorem dX12_readOne_147 : decode cX12_readOne 147 = .ok (.iconst 1, 1) := by decide +kernel
theorem dX12_readOne_148 : decode cX12_readOne 148 = .ok (.iadd, 1) := by decide +kernel
theorem dX12_readOne_149 : decode cX12_readOne 149 = .ok (.invokestatic 157, 3) := by decide +kernel
theorem dX12_readOne_152 : decode cX12_readOne 152 = .ok (.aload_n 0, 1) := by decide +kernel
theorem dX12_readOne_153 : decode cX12_readOne 153 = .ok (.invokevirtual 153, 3) := by decide +kernel
theorem dX12_readOne_156 : decode cX12_readOne 156 = .ok (.if_icmp .le 11, 3) := by decide +kernel
theorem dX12_readOne_159 : decode cX12_readOne 159 = .ok (.aload_n 0, 1) := by decide +kernel
theorem dX12_readOne_160 : decode cX12_readOne 160 = .ok (.iconst 4, 1) := by decide +kernel
theorem dX12_readOne_161 : decode cX12_readOne 161 = .ok (.putfield 129, 3) := by decide +kernel
theorem dX12_readOne_164 : decode cX12_readOne 164 = .ok (.goto 13, 3) := by decide +kernel
theorem dX12_readOne_167 : decode cX12_readOne 167 = .ok (.aload_n 0, 1) := by decide +kernel
theorem dX12_readOne_168 : decode cX12_readOne 168 = .ok (.iload 6, 2) := by decide +kernel
theorem dX12_readOne_170 : decode cX12_readOne 170 = .ok (.iload 7, 2) := by decide +kernel
theorem dX12_readOne_172 : decode cX12_readOne 172 = .ok (.iload 8, 2) := by decide +kernel
theorem dX12_readOne_174 : decode cX12_readOne 174 = .ok (.invokevirtual 160, 3) := by decide +kernel
theorem dX12_readOne_177 : decode cX12_readOne 177 = .ok (.return_, 1) := by decide +kernel
theorem dX12_read_0 : decode cX12_read 0 = .ok (.iconst 2, 1) := by decide +kernel
theorem dX12_read_1 : decode cX12_read 1 = .ok (.istore_n 1, 1) := by decide +kernel
theorem dX12_read_2 : decode cX12_read 2 = .ok (.iload_n 1, 1) := by decide +kernel
theorem dX12_read_3 : decode cX12_read 3 = .ok (.aload_n 0, 1) := by decide +kernel
theorem dX12_read_4 : decode cX12_read 4 = .ok (.getfield 114, 3) := by decide +kernel
theorem dX12_read_7 : decode cX12_read 7 = .ok (.if_icmp .ge 264, 3) := by decide +kernel
theorem dX12_read_10 : decode cX12_read 10 = .ok (.aload_n 0, 1) := by decide +kernel
theorem dX12_read_11 : decode cX12_read 11 = .ok (.getfield 129, 3) := by decide +kernel
theorem dX12_read_14 : decode cX12_read 14 = .ok (.ifCond .ne 257, 3) := by decide +kernel
theorem dX12_read_17 : decode cX12_read 17 = .ok (.iload_n 1, 1) := by decide +kernel
theorem dX12_read_18 : decode cX12_read 18 = .ok (.iconst 3, 1) := by decide +kernel
theorem dX12_read_19 : decode cX12_read 19 = .ok (.iadd, 1) := by decide +kernel
theorem dX12_read_20 : decode cX12_read 20 = .ok (.aload_n 0, 1) := by decide +kernel
theorem dX12_read_21 : decode cX12_read 21 = .ok (.getfield 114, 3) := by decide +kernel
theorem dX12_read_24 : decode cX12_read 24 = .ok (.if_icmp .le 9, 3) := by decide +kernel
theorem dX12_read_27 : decode cX12_read 27 = .ok (.aload_n 0, 1) := by decide +kernel
theorem dX12_read_28 : decode cX12_read 28 = .ok (.iconst 4, 1) := by decide +kernel
theorem dX12_read_29 : decode cX12_read 29 = .ok (.putfield 129, 3) := by decide +kernel
theorem dX12_read_32 : decode cX12_read 32 = .ok (.return_, 1) := by decide +kernel
theorem dX12_read_33 : decode cX12_read 33 = .ok (.aload_n 0, 1) := by decide +kernel
theorem dX12_read_34 : decode cX12_read 34 = .ok (.getfield 39, 3) := by decide +kernel
theorem dX12_read_37 : decode cX12_read 37 = .ok (.iload_n 1, 1) := by decide +kernel
theorem dX12_read_38 : decode cX12_read 38 = .ok (.iaload, 1) := by decide +kernel
theorem dX12_read_39 : decode cX12_read 39 = .ok (.istore_n 2, 1) := by decide +kernel
theorem dX12_read_40 : decode cX12_read 40 = .ok (.aload_n 0, 1) := by decide +kernel
theorem dX12_read_41 : decode cX12_read 41 = .ok (.getfield 39, 3) := by decide +kernel
theorem dX12_read_44 : decode cX12_read 44 = .ok (.iload_n 1, 1) := by decide +kernel
theorem dX12_read_45 : decode cX12_read 45 = .ok (.iconst 1, 1) := by decide +kernel
theorem dX12_read_46 : decode cX12_read 46 = .ok (.iadd, 1) := by decide +kernel
theorem dX12_read_47 : decode cX12_read 47 = .ok (.iaload, 1) := by decide +kernel
theorem dX12_read_48 : decode cX12_read 48 = .ok (.istore_n 3, 1) := by decide +kernel
theorem dX12_read_49 : decode cX12_read 49 = .ok (.aload_n 0, 1) := by decide +kernel
theorem dX12_read_50 : decode cX12_read 50 = .ok (.getfield 39, 3) := by decide +kernel
theorem dX12_read_53 : decode cX12_read 53 = .ok (.iload_n 1, 1) := by decide +kernel
theorem dX12_read_54 : decode cX12_read 54 = .ok (.iconst 2, 1) := by decide +kernel
theorem dX12_read_55 : decode cX12_read 55 = .ok (.iadd, 1) := by decide +kernel
theorem dX12_read_56 : decode cX12_read 56 = .ok (.iaload, 1) := by decide +kernel
theorem dX12_read_57 : decode cX12_read 57 = .ok (.istore 4, 2) := by decide +kernel
theorem dX12_read_59 : decode cX12_read 59 = .ok (.iload_n 2, 1) := by decide +kernel
theorem dX12_read_60 : decode cX12_read 60 = .ok (.iconst 1, 1) := by decide +kernel
theorem dX12_read_61 : decode cX12_read 61 = .ok (.if_icmp .ne 8, 3) := by decide +kernel
theorem dX12_read_64 : decode cX12_read 64 = .ok (.iload_n 3, 1) := by decide +kernel
theorem dX12_read_65 : decode cX12_read 65 = .ok (.iconst 2, 1) := by decide +kernel
theorem dX12_read_66 : decode cX12_read 66 = .ok (.if_icmp .eq 14, 3) := by decide +kernel
theorem dX12_read_69 : decode cX12_read 69 = .ok (.iload_n 2, 1) := by decide +kernel
theorem dX12_read_70 : decode cX12_read 70 = .ok (.bipush 30, 2) := by decide +kernel
theorem dX12_read_72 : decode cX12_read 72 = .ok (.if_icmp .ne 12, 3) := by decide +kernel
theorem dX12_read_75 : decode cX12_read 75 = .ok (.iload_n 3, 1) := by decide +kernel
theorem dX12_read_76 : decode cX12_read 76 = .ok (.iconst 1, 1) := by decide +kernel
theorem dX12_read_77 : decode cX12_read 77 = .ok (.if_icmp .ne 7, 3) := by decide +kernel
theorem dX12_read_80 : decode cX12_read 80 = .ok (.iconst 1, 1) := by decide +kernel
theorem dX12_read_81 : decode cX12_read 81 = .ok (.goto 4, 3) := by decide +kernel
theorem dX12_read_84 : decode cX12_read 84 = .ok (.iconst 0, 1) := by decide +kernel
theorem dX12_read_85 : decode cX12_read 85 = .ok (.istore 5, 2) := by decide +kernel
theorem dX12_read_87 : decode cX12_read 87 = .ok (.iload 5, 2) := by decide +kernel
theorem dX12_read_89 : decode cX12_read 89 = .ok (.ifCond .eq 23, 3) := by decide +kernel
theorem dX12_read_92 : decode cX12_read 92 = .ok (.iload 4, 2) := by decide +kernel
theorem dX12_read_94 : decode cX12_read 94 = .ok (.ifCond .eq 10, 3) := by decide +kernel
theorem dX12_read_97 : decode cX12_read 97 = .ok (.iload 4, 2) := by decide +kernel
theorem dX12_read_99 : decode cX12_read 99 = .ok (.bipush 6, 2) := by decide +kernel
theorem dX12_read_101 : decode cX12_read 101 = .ok (.if_icmp .ne 7, 3) := by decide +kernel
theorem dX12_read_104 : decode cX12_read 104 = .ok (.iconst 1, 1) := by decide +kernel
theorem dX12_read_105 : decode cX12_read 105 = .ok (.goto 54, 3) := by decide +kernel
theorem dX12_read_108 : decode cX12_read 108 = .ok (.iconst 0, 1) := by decide +kernel
theorem dX12_read_109 : decode cX12_read 109 = .ok (.goto 50, 3) := by decide +kernel
theorem dX12_read_112 : decode cX12_read 112 = .ok (.iload_n 2, 1) := by decide +kernel
theorem dX12_read_113 : decode cX12_read 113 = .ok (.bipush 60, 2) := by decide +kernel
theorem dX12_read_115 : decode cX12_read 115 = .ok (.if_icmp .ne 43, 3) := by decide +kernel
theorem dX12_read_118 : decode cX12_read 118 = .ok (.iload_n 3, 1) := by decide +kernel
theorem dX12_read_119 : decode cX12_read 119 = .ok (.iconst 1, 1) := by decide +kernel
theorem dX12_read_120 : decode cX12_read 120 = .ok (.if_icmp .ne 10, 3) := by decide +kernel
theorem dX12_read_123 : decode cX12_read 123 = .ok (.iload 4, 2) := by decide +kernel
theorem dX12_read_125 : decode cX12_read 125 = .ok (.bipush 6, 2) := by decide +kernel
theorem dX12_read_127 : decode cX12_read 127 = .ok (.if_icmp .eq 27, 3) := by decide +kernel
theorem dX12_read_130 : decode cX12_read 130 = .ok (.iload_n 3, 1) := by decide +kernel
theorem dX12_read_131 : decode cX12_read 131 = .ok (.iconst 2, 1) := by decide +kernel
theorem dX12_read_132 : decode cX12_read 132 = .ok (.if_icmp .eq 8, 3) := by decide +kernel
theorem dX12_read_135 : decode cX12_read 135 = .ok (.iload_n 3, 1) := by decide +kernel
theorem dX12_read_136 : decode cX12_read 136 = .ok (.iconst 3, 1) := by decide +kernel
theorem dX12_read_137 : decode cX12_read 137 = .ok (.if_icmp .ne 21, 3) := by decide +kernel
theorem dX12_read_140 : decode cX12_read 140 = .ok (.iload 4, 2) := by decide +kernel
theorem dX12_read_142 : decode cX12_read 142 = .ok (.bipush 6, 2) := by decide +kernel
theorem dX12_read_144 : decode cX12_read 144 = .ok (.if_icmp .eq 10, 3) := by decide +kernel
theorem dX12_read_147 : decode cX12_read 147 = .ok (.iload 4, 2) := by decide +kernel
theorem dX12_read_149 : decode cX12_read 149 = .ok (.bipush 7, 2) := by decide +kernel
theorem dX12_read_151 : decode cX12_read 151 = .ok (.if_icmp .ne 7, 3) := by decide +kernel
theorem dX12_read_154 : decode cX12_read 154 = .ok (.iconst 1, 1) := by decide +kernel
theorem dX12_read_155 : decode cX12_read 155 = .ok (.goto 4, 3) := by decide +kernel
theorem dX12_read_158 : decode cX12_read 158 = .ok (.iconst 0, 1) := by decide +kernel
theorem dX12_read_159 : decode cX12_read 159 = .ok (.istore 6, 2) := by decide +kernel
theorem dX12_read_161 : decode cX12_read 161 = .ok (.iload 4, 2) := by decide +kernel
theorem dX12_read_163 : decode cX12_read 163 = .ok (.ifCond .ne 7, 3) := by decide +kernel
theorem dX12_read_166 : decode cX12_read 166 = .ok (.iconst 2, 1) := by decide +kernel
theorem dX12_read_167 : decode cX12_read 167 = .ok (.goto 15, 3) := by decide +kernel
theorem dX12_read_170 : decode cX12_read 170 = .ok (.iload 4, 2) := by decide +kernel
theorem dX12_read_172 : decode cX12_read 172 = .ok (.bipush 7, 2) := by decide +kernel
theorem dX12_read_174 : decode cX12_read 174 = .ok (.if_icmp .ne 7, 3) := by decide +kernel
theorem dX12_read_177 : decode cX12_read 177 = .ok (.iconst 1, 1) := by decide +kernel
theorem dX12_read_178 : decode cX12_read 178 = .ok (.goto 4, 3) := by decide +kernel
theorem dX12_read_181 : decode cX12_read 181 = .ok (.iconst 0, 1) := by decide +kernel
theorem dX12_read_182 : decode cX12_read 182 = .ok (.istore 7, 2) := by decide +kernel
theorem dX12_read_184 : decode cX12_read 184 = .ok (.iload 6, 2) := by decide +kernel
theorem dX12_read_186 : decode cX12_read 186 = .ok (.ifCond .ne 11, 3) := by decide +kernel
theorem dX12_read_189 : decode cX12_read 189 = .ok (.aload_n 0, 1) := by decide +kernel
theorem dX12_read_190 : decode cX12_read 190 = .ok (.iconst 2, 1) := by decide +kernel
theorem dX12_read_191 : decode cX12_read 191 = .ok (.putfield 129, 3) := by decide +kernel
theorem dX12_read_194 : decode cX12_read 194 = .ok (.goto 67, 3) := by decide +kernel
theorem dX12_read_197 : decode cX12_read 197 = .ok (.iload_n 1, 1) := by decide +kernel
theorem dX12_read_198 : decode cX12_read 198 = .ok (.iconst 3, 1) := by decide +kernel
theorem dX12_read_199 : decode cX12_read 199 = .ok (.iadd, 1) := by decide +kernel
theorem dX12_read_200 : decode cX12_read 200 = .ok (.iload 7, 2) := by decide +kernel
theorem dX12_read_202 : decode cX12_read 202 = .ok (.iadd, 1) := by decide +kernel
theorem dX12_read_203 : decode cX12_read 203 = .ok (.aload_n 0, 1) := by decide +kernel
theorem dX12_read_204 : decode cX12_read 204 = .ok (.getfield 114, 3) := by decide +kernel
theorem dX12_read_207 : decode cX12_read 207 = .ok (.if_icmp .le 11, 3) := by decide +kernel
theorem dX12_read_210 : decode cX12_read 210 = .ok (.aload_n 0, 1) := by decide +kernel
theorem dX12_read_211 : decode cX12_read 211 = .ok (.iconst 4, 1) := by decide +kernel
theorem dX12_read_212 : decode cX12_read 212 = .ok (.putfield 129, 3) := by decide +kernel
theorem dX12_read_215 : decode cX12_read 215 = .ok (.goto 46, 3) := by decide +kernel
theorem dX12_read_218 : decode cX12_read 218 = .ok (.aload_n 0, 1) := by decide +kernel
theorem dX12_read_219 : decode cX12_read 219 = .ok (.iload_n 2, 1) := by decide +kernel
theorem dX12_read_220 : decode cX12_read 220 = .ok (.iload_n 3, 1) := by decide +kernel
theorem dX12_read_221 : decode cX12_read 221 = .ok (.iload 4, 2) := by decide +kernel
theorem dX12_read_223 : decode cX12_read 223 = .ok (.iload 7, 2) := by decide +kernel
theorem dX12_read_225 : decode cX12_read 225 = .ok (.ifCond .le 14, 3) := by decide +kernel
theorem dX12_read_228 : decode cX12_read 228 = .ok (.aload_n 0, 1) := by decide +kernel
theorem dX12_read_229 : decode cX12_read 229 = .ok (.getfield 39, 3) := by decide +kernel
theorem dX12_read_232 : decode cX12_read 232 = .ok (.iload_n 1, 1) := by decide +kernel
theorem dX12_read_233 : decode cX12_read 233 = .ok (.iconst 3, 1) := by decide +kernel
theorem dX12_read_234 : decode cX12_read 234 = .ok (.iadd, 1) := by decide +kernel
theorem dX12_read_235 : decode cX12_read 235 = .ok (.iaload, 1) := by decide +kernel
theorem dX12_read_236 : decode cX12_read 236 = .ok (.goto 4, 3) := by decide +kernel
theorem dX12_read_239 : decode cX12_read 239 = .ok (.iconst 0, 1) := by decide +kernel
theorem dX12_read_240 : decode cX12_read 240 = .ok (.iload 7, 2) := by decide +kernel
theorem dX12_read_242 : decode cX12_read 242 = .ok (.iconst 1, 1) := by decide +kernel
theorem dX12_read_243 : decode cX12_read 243 = .ok (.if_icmp .le 14, 3) := by decide +kernel
theorem dX12_read_246 : decode cX12_read 246 = .ok (.aload_n 0, 1) := by decide +kernel
theorem dX12_read_247 : decode cX12_read 247 = .ok (.getfield 39, 3) := by decide +kernel
theorem dX12_read_250 : decode cX12_read 250 = .ok (.iload_n 1, 1) := by decide +kernel
theorem dX12_read_251 : decode cX12_read 251 = .ok (.iconst 4, 1) := by decide +kernel
theorem dX12_read_252 : decode cX12_read 252 = .ok (.iadd, 1) := by decide +kernel
theorem dX12_read_253 : decode cX12_read 253 = .ok (.iaload, 1) := by decide +kernel
theorem dX12_read_254 : decode cX12_read 254 = .ok (.goto 4, 3) := by decide +kernel
theorem dX12_read_257 : decode cX12_read 257 = .ok (.iconst 0, 1) := by decide +kernel
theorem dX12_read_258 : decode cX12_read 258 = .ok (.invokevirtual 167, 3) := by decide +kernel
theorem dX12_read_261 : decode cX12_read 261 = .ok (.iload_n 1, 1) := by decide +kernel
theorem dX12_read_262 : decode cX12_read 262 = .ok (.iconst 3, 1) := by decide +kernel
theorem dX12_read_263 : decode cX12_read 263 = .ok (.iadd, 1) := by decide +kernel
theorem dX12_read_264 : decode cX12_read 264 = .ok (.iload 7, 2) := by decide +kernel
theorem dX12_read_266 : decode cX12_read 266 = .ok (.iadd, 1) := by decide +kernel
theorem dX12_read_267 : decode cX12_read 267 = .ok (.istore_n 1, 1) := by decide +kernel
theorem dX12_read_268 : decode cX12_read 268 = .ok (.goto (-266), 3) := by decide +kernel
theorem dX12_read_271 : decode cX12_read 271 = .ok (.return_, 1) := by decide +kernel
theorem dX12_write_0 : decode cX12_write 0 = .ok (.aload_n 0, 1) := by decide +kernel
theorem dX12_write_1 : decode cX12_write 1 = .ok (.getfield 114, 3) := by decide +kernel
theorem dX12_write_4 : decode cX12_write 4 = .ok (.bipush 8, 2) := by decide +kernel
theorem dX12_write_6 : decode cX12_write 6 = .ok (.if_icmp .ne 70, 3) := by decide +kernel
theorem dX12_write_9 : decode cX12_write 9 = .ok (.aload_n 0, 1) := by decide +kernel
theorem dX12_write_10 : decode cX12_write 10 = .ok (.getfield 39, 3) := by decide +kernel
theorem dX12_write_13 : decode cX12_write 13 = .ok (.iconst 2, 1) := by decide +kernel
theorem dX12_write_14 : decode cX12_write 14 = .ok (.iaload, 1) := by decide +kernel
theorem dX12_write_15 : decode cX12_write 15 = .ok (.bipush 80, 2) := by decide +kernel
theorem dX12_write_17 : decode cX12_write 17 = .ok (.if_icmp .ne 59, 3) := by decide +kernel
theorem dX12_write_20 : decode cX12_write 20 = .ok (.aload_n 0, 1) := by decide +kernel
theorem dX12_write_21 : decode cX12_write 21 = .ok (.getfield 39, 3) := by decide +kernel
theorem dX12_write_24 : decode cX12_write 24 = .ok (.iconst 3, 1) := by decide +kernel
theorem dX12_write_25 : decode cX12_write 25 = .ok (.iaload, 1) := by decide +kernel
theorem dX12_write_26 : decode cX12_write 26 = .ok (.iconst 1, 1) := by decide +kernel
theorem dX12_write_27 : decode cX12_write 27 = .ok (.if_icmp .ne 49, 3) := by decide +kernel
theorem dX12_write_30 : decode cX12_write 30 = .ok (.aload_n 0, 1) := by decide +kernel
theorem dX12_write_31 : decode cX12_write 31 = .ok (.getfield 39, 3) := by decide +kernel
theorem dX12_write_34 : decode cX12_write 34 = .ok (.iconst 4, 1) := by decide +kernel
theorem dX12_write_35 : decode cX12_write 35 = .ok (.iaload, 1) := by decide +kernel
theorem dX12_write_36 : decode cX12_write 36 = .ok (.ifCond .ne 40, 3) := by decide +kernel
theorem dX12_write_39 : decode cX12_write 39 = .ok (.aload_n 0, 1) := by decide +kernel
theorem dX12_write_40 : decode cX12_write 40 = .ok (.getfield 39, 3) := by decide +kernel
theorem dX12_write_43 : decode cX12_write 43 = .ok (.iconst 5, 1) := by decide +kernel
theorem dX12_write_44 : decode cX12_write 44 = .ok (.iaload, 1) := by decide +kernel
theorem dX12_write_45 : decode cX12_write 45 = .ok (.bipush 7, 2) := by decide +kernel
theorem dX12_write_47 : decode cX12_write 47 = .ok (.if_icmp .ne 29, 3) := by decide +kernel
theorem dX12_write_50 : decode cX12_write 50 = .ok (.aload_n 0, 1) := by decide +kernel
theorem dX12_write_51 : decode cX12_write 51 = .ok (.getfield 39, 3) := by decide +kernel
theorem dX12_write_54 : decode cX12_write 54 = .ok (.bipush 6, 2) := by decide +kernel
theorem dX12_write_56 : decode cX12_write 56 = .ok (.iaload, 1) := by decide +kernel
theorem dX12_write_57 : decode cX12_write 57 = .ok (.bipush 7, 2) := by decide +kernel
theorem dX12_write_59 : decode cX12_write 59 = .ok (.if_icmp .ne 17, 3) := by decide +kernel
theorem dX12_write_62 : decode cX12_write 62 = .ok (.aload_n 0, 1) := by decide +kernel
theorem dX12_write_63 : decode cX12_write 63 = .ok (.getfield 39, 3) := by decide +kernel
theorem dX12_write_66 : decode cX12_write 66 = .ok (.bipush 7, 2) := by decide +kernel
theorem dX12_write_68 : decode cX12_write 68 = .ok (.iaload, 1) := by decide +kernel
theorem dX12_write_69 : decode cX12_write 69 = .ok (.ifCond .ne 7, 3) := by decide +kernel
theorem dX12_write_72 : decode cX12_write 72 = .ok (.iconst 1, 1) := by decide +kernel
theorem dX12_write_73 : decode cX12_write 73 = .ok (.goto 4, 3) := by decide +kernel
theorem dX12_write_76 : decode cX12_write 76 = .ok (.iconst 0, 1) := by decide +kernel
theorem dX12_write_77 : decode cX12_write 77 = .ok (.istore_n 1, 1) := by decide +kernel
theorem dX12_write_78 : decode cX12_write 78 = .ok (.aload_n 0, 1) := by decide +kernel
theorem dX12_write_79 : decode cX12_write 79 = .ok (.aload_n 0, 1) := by decide +kernel
theorem dX12_write_80 : decode cX12_write 80 = .ok (.getfield 29, 3) := by decide +kernel
theorem dX12_write_83 : decode cX12_write 83 = .ok (.ifCond .eq 11, 3) := by decide +kernel
theorem dX12_write_86 : decode cX12_write 86 = .ok (.iload_n 1, 1) := by decide +kernel
theorem dX12_write_87 : decode cX12_write 87 = .ok (.ifCond .ne 7, 3) := by decide +kernel
theorem dX12_write_90 : decode cX12_write 90 = .ok (.iconst 1, 1) := by decide +kernel
theorem dX12_write_91 : decode cX12_write 91 = .ok (.goto 4, 3) := by decide +kernel
theorem dX12_write_94 : decode cX12_write 94 = .ok (.iconst 0, 1) := by decide +kernel
theorem dX12_write_95 : decode cX12_write 95 = .ok (.putfield 29, 3) := by decide +kernel
theorem dX12_write_98 : decode cX12_write 98 = .ok (.aload_n 0, 1) := by decide +kernel
theorem dX12_write_99 : decode cX12_write 99 = .ok (.iload_n 1, 1) := by decide +kernel
theorem dX12_write_100 : decode cX12_write 100 = .ok (.ifCond .eq 7, 3) := by decide +kernel
theorem dX12_write_103 : decode cX12_write 103 = .ok (.iconst 0, 1) := by decide +kernel
theorem dX12_write_104 : decode cX12_write 104 = .ok (.goto 4, 3) := by decide +kernel
theorem dX12_write_107 : decode cX12_write 107 = .ok (.iconst 4, 1) := by decide +kernel
theorem dX12_write_108 : decode cX12_write 108 = .ok (.putfield 129, 3) := by decide +kernel
theorem dX12_write_111 : decode cX12_write 111 = .ok (.return_, 1) := by decide +kernel
theorem dX12_control_0 : decode cX12_control 0 = .ok (.aload_n 0, 1) := by decide +kernel
theorem dX12_control_1 : decode cX12_control 1 = .ok (.getfield 114, 3) := by decide +kernel
theorem dX12_control_4 : decode cX12_control 4 = .ok (.bipush 8, 2) := by decide +kernel
theorem dX12_control_6 : decode cX12_control 6 = .ok (.if_icmp .ne 49, 3) := by decide +kernel
theorem dX12_control_9 : decode cX12_control 9 = .ok (.aload_n 0, 1) := by decide +kernel
theorem dX12_control_10 : decode cX12_control 10 = .ok (.getfield 39, 3) := by decide +kernel
theorem dX12_control_13 : decode cX12_control 13 = .ok (.iconst 2, 1) := by decide +kernel
theorem dX12_control_14 : decode cX12_control 14 = .ok (.iaload, 1) := by decide +kernel
theorem dX12_control_15 : decode cX12_control 15 = .ok (.bipush 12, 2) := by decide +kernel
theorem dX12_control_17 : decode cX12_control 17 = .ok (.if_icmp .ne 38, 3) := by decide +kernel
theorem dX12_control_20 : decode cX12_control 20 = .ok (.aload_n 0, 1) := by decide +kernel
theorem dX12_control_21 : decode cX12_control 21 = .ok (.getfield 39, 3) := by decide +kernel
theorem dX12_control_24 : decode cX12_control 24 = .ok (.iconst 3, 1) := by decide +kernel
theorem dX12_control_25 : decode cX12_control 25 = .ok (.iaload, 1) := by decide +kernel
theorem dX12_control_26 : decode cX12_control 26 = .ok (.iconst 1, 1) := by decide +kernel
theorem dX12_control_27 : decode cX12_control 27 = .ok (.if_icmp .ne 28, 3) := by decide +kernel
theorem dX12_control_30 : decode cX12_control 30 = .ok (.aload_n 0, 1) := by decide +kernel
theorem dX12_control_31 : decode cX12_control 31 = .ok (.getfield 39, 3) := by decide +kernel
theorem dX12_control_34 : decode cX12_control 34 = .ok (.iconst 4, 1) := by decide +kernel
theorem dX12_control_35 : decode cX12_control 35 = .ok (.iaload, 1) := by decide +kernel
theorem dX12_control_36 : decode cX12_control 36 = .ok (.bipush 23, 2) := by decide +kernel
theorem dX12_control_38 : decode cX12_control 38 = .ok (.if_icmp .ne 17, 3) := by decide +kernel
theorem dX12_control_41 : decode cX12_control 41 = .ok (.aload_n 0, 1) := by decide +kernel
theorem dX12_control_42 : decode cX12_control 42 = .ok (.getfield 39, 3) := by decide +kernel
theorem dX12_control_45 : decode cX12_control 45 = .ok (.iconst 5, 1) := by decide +kernel
theorem dX12_control_46 : decode cX12_control 46 = .ok (.iaload, 1) := by decide +kernel
theorem dX12_control_47 : decode cX12_control 47 = .ok (.iconst 1, 1) := by decide +kernel
theorem dX12_control_48 : decode cX12_control 48 = .ok (.if_icmp .ne 7, 3) := by decide +kernel
theorem dX12_control_51 : decode cX12_control 51 = .ok (.iconst 1, 1) := by decide +kernel
theorem dX12_control_52 : decode cX12_control 52 = .ok (.goto 4, 3) := by decide +kernel
theorem dX12_control_55 : decode cX12_control 55 = .ok (.iconst 0, 1) := by decide +kernel
theorem dX12_control_56 : decode cX12_control 56 = .ok (.istore_n 3, 1) := by decide +kernel
theorem dX12_control_57 : decode cX12_control 57 = .ok (.aload_n 0, 1) := by decide +kernel
theorem dX12_control_58 : decode cX12_control 58 = .ok (.getfield 42, 3) := by decide +kernel
theorem dX12_control_61 : decode cX12_control 61 = .ok (.istore 4, 2) := by decide +kernel
theorem dX12_control_63 : decode cX12_control 63 = .ok (.aload_n 0, 1) := by decide +kernel
theorem dX12_control_64 : decode cX12_control 64 = .ok (.iconst (-1), 1) := by decide +kernel
theorem dX12_control_65 : decode cX12_control 65 = .ok (.putfield 42, 3) := by decide +kernel
theorem dX12_control_68 : decode cX12_control 68 = .ok (.iload_n 3, 1) := by decide +kernel
theorem dX12_control_69 : decode cX12_control 69 = .ok (.ifCond .ne 9, 3) := by decide +kernel
theorem dX12_control_72 : decode cX12_control 72 = .ok (.aload_n 0, 1) := by decide +kernel
theorem dX12_control_73 : decode cX12_control 73 = .ok (.iconst 4, 1) := by decide +kernel
theorem dX12_control_74 : decode cX12_control 74 = .ok (.putfield 129, 3) := by decide +kernel
theorem dX12_control_77 : decode cX12_control 77 = .ok (.return_, 1) := by decide +kernel
theorem dX12_control_78 : decode cX12_control 78 = .ok (.aload_n 0, 1) := by decide +kernel
theorem dX12_control_79 : decode cX12_control 79 = .ok (.getfield 39, 3) := by decide +kernel
theorem dX12_control_82 : decode cX12_control 82 = .ok (.bipush 6, 2) := by decide +kernel
theorem dX12_control_84 : decode cX12_control 84 = .ok (.iaload, 1) := by decide +kernel
theorem dX12_control_85 : decode cX12_control 85 = .ok (.istore 5, 2) := by decide +kernel
theorem dX12_control_87 : decode cX12_control 87 = .ok (.aload_n 0, 1) := by decide +kernel
theorem dX12_control_88 : decode cX12_control 88 = .ok (.getfield 39, 3) := by decide +kernel
theorem dX12_control_91 : decode cX12_control 91 = .ok (.bipush 7, 2) := by decide +kernel
theorem dX12_control_93 : decode cX12_control 93 = .ok (.iaload, 1) := by decide +kernel
theorem dX12_control_94 : decode cX12_control 94 = .ok (.istore 6, 2) := by decide +kernel
theorem dX12_control_96 : decode cX12_control 96 = .ok (.iload 4, 2) := by decide +kernel
theorem dX12_control_98 : decode cX12_control 98 = .ok (.iload 5, 2) := by decide +kernel
theorem dX12_control_100 : decode cX12_control 100 = .ok (.if_icmp .ne 25, 3) := by decide +kernel
theorem dX12_control_103 : decode cX12_control 103 = .ok (.aload_n 0, 1) := by decide +kernel
theorem dX12_control_104 : decode cX12_control 104 = .ok (.getfield 171, 3) := by decide +kernel
theorem dX12_control_107 : decode cX12_control 107 = .ok (.iload 6, 2) := by decide +kernel
theorem dX12_control_109 : decode cX12_control 109 = .ok (.if_icmp .ne 16, 3) := by decide +kernel
theorem dX12_control_112 : decode cX12_control 112 = .ok (.aload_n 0, 1) := by decide +kernel
theorem dX12_control_113 : decode cX12_control 113 = .ok (.getfield 174, 3) := by decide +kernel
theorem dX12_control_116 : decode cX12_control 116 = .ok (.iconst 1, 1) := by decide +kernel
theorem dX12_control_117 : decode cX12_control 117 = .ok (.iadd, 1) := by decide +kernel
theorem dX12_control_118 : decode cX12_control 118 = .ok (.bipush 16, 2) := by decide +kernel
theorem dX12_control_120 : decode cX12_control 120 = .ok (.irem, 1) := by decide +kernel
theorem dX12_control_121 : decode cX12_control 121 = .ok (.iload_n 2, 1) := by decide +kernel
theorem dX12_control_122 : decode cX12_control 122 = .ok (.if_icmp .eq 7, 3) := by decide +kernel
theorem dX12_control_125 : decode cX12_control 125 = .ok (.iconst 1, 1) := by decide +kernel
theorem dX12_control_126 : decode cX12_control 126 = .ok (.goto 4, 3) := by decide +kernel
theorem dX12_control_129 : decode cX12_control 129 = .ok (.iconst 0, 1) := by decide +kernel
theorem dX12_control_130 : decode cX12_control 130 = .ok (.istore 7, 2) := by decide +kernel
theorem dX12_control_132 : decode cX12_control 132 = .ok (.iload 5, 2) := by decide +kernel
theorem dX12_control_134 : decode cX12_control 134 = .ok (.iconst 3, 1) := by decide +kernel
theorem dX12_control_135 : decode cX12_control 135 = .ok (.if_icmp .le 7, 3) := by decide +kernel
theorem dX12_control_138 : decode cX12_control 138 = .ok (.iconst 4, 1) := by decide +kernel
theorem dX12_control_139 : decode cX12_control 139 = .ok (.goto 56, 3) := by decide +kernel
theorem dX12_control_142 : decode cX12_control 142 = .ok (.iload 6, 2) := by decide +kernel
theorem dX12_control_144 : decode cX12_control 144 = .ok (.iconst 3, 1) := by decide +kernel
theorem dX12_control_145 : decode cX12_control 145 = .ok (.if_icmp .eq 13, 3) := by decide +kernel
theorem dX12_control_148 : decode cX12_control 148 = .ok (.iload 6, 2) := by decide +kernel
theorem dX12_control_150 : decode cX12_control 150 = .ok (.iconst 4, 1) := by decide +kernel
theorem dX12_control_151 : decode cX12_control 151 = .ok (.if_icmp .eq 7, 3) := by decide +kernel
theorem dX12_control_154 : decode cX12_control 154 = .ok (.iconst 3, 1) := by decide +kernel
theorem dX12_control_155 : decode cX12_control 155 = .ok (.goto 40, 3) := by decide +kernel
theorem dX12_control_158 : decode cX12_control 158 = .ok (.iload_n 1, 1) := by decide +kernel
theorem dX12_control_159 : decode cX12_control 159 = .ok (.iconst 4, 1) := by decide +kernel
theorem dX12_control_160 : decode cX12_control 160 = .ok (.if_icmp .eq 7, 3) := by decide +kernel
theorem dX12_control_163 : decode cX12_control 163 = .ok (.iconst 0, 1) := by decide +kernel
theorem dX12_control_164 : decode cX12_control 164 = .ok (.goto 31, 3) := by decide +kernel
theorem dX12_control_167 : decode cX12_control 167 = .ok (.iload 7, 2) := by decide +kernel
theorem dX12_control_169 : decode cX12_control 169 = .ok (.ifCond .eq 7, 3) := by decide +kernel
theorem dX12_control_172 : decode cX12_control 172 = .ok (.iconst 2, 1) := by decide +kernel
theorem dX12_control_173 : decode cX12_control 173 = .ok (.goto 22, 3) := by decide +kernel
theorem dX12_control_176 : decode cX12_control 176 = .ok (.aload_n 0, 1) := by decide +kernel
theorem dX12_control_177 : decode cX12_control 177 = .ok (.getfield 73, 3) := by decide +kernel
theorem dX12_control_180 : decode cX12_control 180 = .ok (.aload_n 0, 1) := by decide +kernel
theorem dX12_control_181 : decode cX12_control 181 = .ok (.getfield 177, 3) := by decide +kernel
theorem dX12_control_184 : decode cX12_control 184 = .ok (.bipush 10, 2) := by decide +kernel
theorem dX12_control_186 : decode cX12_control 186 = .ok (.iadd, 1) := by decide +kernel
theorem dX12_control_187 : decode cX12_control 187 = .ok (.if_icmp .le 7, 3) := by decide +kernel
theorem dX12_control_190 : decode cX12_control 190 = .ok (.iconst 1, 1) := by decide +kernel
theorem dX12_control_191 : decode cX12_control 191 = .ok (.goto 4, 3) := by decide +kernel
theorem dX12_control_194 : decode cX12_control 194 = .ok (.iconst 0, 1) := by decide +kernel
theorem dX12_control_195 : decode cX12_control 195 = .ok (.istore 8, 2) := by decide +kernel
theorem dX12_control_197 : decode cX12_control 197 = .ok (.iload 8, 2) := by decide +kernel
theorem dX12_control_199 : decode cX12_control 199 = .ok (.ifCond .ne 19, 3) := by decide +kernel
theorem dX12_control_202 : decode cX12_control 202 = .ok (.iload_n 1, 1) := by decide +kernel
theorem dX12_control_203 : decode cX12_control 203 = .ok (.iconst 3, 1) := by decide +kernel
theorem dX12_control_204 : decode cX12_control 204 = .ok (.if_icmp .eq 14, 3) := by decide +kernel
theorem dX12_control_207 : decode cX12_control 207 = .ok (.aload_n 0, 1) := by decide +kernel
theorem dX12_control_208 : decode cX12_control 208 = .ok (.getfield 33, 3) := by decide +kernel
theorem dX12_control_211 : decode cX12_control 211 = .ok (.iload 5, 2) := by decide +kernel
theorem dX12_control_213 : decode cX12_control 213 = .ok (.iconst 4, 1) := by decide +kernel
theorem dX12_control_214 : decode cX12_control 214 = .ok (.iload 6, 2) := by decide +kernel
theorem dX12_control_216 : decode cX12_control 216 = .ok (.isub, 1) := by decide +kernel
theorem dX12_control_217 : decode cX12_control 217 = .ok (.iastore, 1) := by decide +kernel
theorem dX12_control_218 : decode cX12_control 218 = .ok (.iload 8, 2) := by decide +kernel
theorem dX12_control_220 : decode cX12_control 220 = .ok (.ifCond .ne 33, 3) := by decide +kernel
theorem dX12_control_223 : decode cX12_control 223 = .ok (.iload_n 1, 1) := by decide +kernel
theorem dX12_control_224 : decode cX12_control 224 = .ok (.iconst 3, 1) := by decide +kernel
theorem dX12_control_225 : decode cX12_control 225 = .ok (.if_icmp .ne 28, 3) := by decide +kernel
theorem dX12_control_228 : decode cX12_control 228 = .ok (.aload_n 0, 1) := by decide +kernel
theorem dX12_control_229 : decode cX12_control 229 = .ok (.iload 5, 2) := by decide +kernel
theorem dX12_control_231 : decode cX12_control 231 = .ok (.putfield 42, 3) := by decide +kernel
theorem dX12_control_234 : decode cX12_control 234 = .ok (.aload_n 0, 1) := by decide +kernel
theorem dX12_control_235 : decode cX12_control 235 = .ok (.iload 6, 2) := by decide +kernel
theorem dX12_control_237 : decode cX12_control 237 = .ok (.putfield 171, 3) := by decide +kernel
theorem dX12_control_240 : decode cX12_control 240 = .ok (.aload_n 0, 1) := by decide +kernel
theorem dX12_control_241 : decode cX12_control 241 = .ok (.iload_n 2, 1) := by decide +kernel
theorem dX12_control_242 : decode cX12_control 242 = .ok (.putfield 174, 3) := by decide +kernel
theorem dX12_control_245 : decode cX12_control 245 = .ok (.aload_n 0, 1) := by decide +kernel
theorem dX12_control_246 : decode cX12_control 246 = .ok (.aload_n 0, 1) := by decide +kernel
theorem dX12_control_247 : decode cX12_control 247 = .ok (.getfield 73, 3) := by decide +kernel
theorem dX12_control_250 : decode cX12_control 250 = .ok (.putfield 177, 3) := by decide +kernel
theorem dX12_control_253 : decode cX12_control 253 = .ok (.iconst 2, 1) := by decide +kernel
theorem dX12_control_254 : decode cX12_control 254 = .ok (.istore 9, 2) := by decide +kernel
theorem dX12_control_256 : decode cX12_control 256 = .ok (.iload 9, 2) := by decide +kernel
theorem dX12_control_258 : decode cX12_control 258 = .ok (.bipush 8, 2) := by decide +kernel
theorem dX12_control_260 : decode cX12_control 260 = .ok (.if_icmp .ge 20, 3) := by decide +kernel
theorem dX12_control_263 : decode cX12_control 263 = .ok (.aload_n 0, 1) := by decide +kernel
theorem dX12_control_264 : decode cX12_control 264 = .ok (.aload_n 0, 1) := by decide +kernel
theorem dX12_control_265 : decode cX12_control 265 = .ok (.getfield 39, 3) := by decide +kernel
theorem dX12_control_268 : decode cX12_control 268 = .ok (.iload 9, 2) := by decide +kernel
theorem dX12_control_270 : decode cX12_control 270 = .ok (.iaload, 1) := by decide +kernel
theorem dX12_control_271 : decode cX12_control 271 = .ok (.invokevirtual 132, 3) := by decide +kernel
theorem dX12_control_274 : decode cX12_control 274 = .ok (.iinc 9 1, 3) := by decide +kernel
theorem dX12_control_277 : decode cX12_control 277 = .ok (.goto (-21), 3) := by decide +kernel
theorem dX12_control_280 : decode cX12_control 280 = .ok (.aload_n 0, 1) := by decide +kernel
theorem dX12_control_281 : decode cX12_control 281 = .ok (.iload 8, 2) := by decide +kernel
theorem dX12_control_283 : decode cX12_control 283 = .ok (.invokevirtual 132, 3) := by decide +kernel
theorem dX12_control_286 : decode cX12_control 286 = .ok (.return_, 1) := by decide +kernel
theorem dX12_put_0 : decode cX12_put 0 = .ok (.aload_n 0, 1) := by decide +kernel
theorem dX12_put_1 : decode cX12_put 1 = .ok (.getfield 52, 3) := by decide +kernel
theorem dX12_put_4 : decode cX12_put 4 = .ok (.aload_n 0, 1) := by decide +kernel
theorem dX12_put_5 : decode cX12_put 5 = .ok (.getfield 180, 3) := by decide +kernel
theorem dX12_put_8 : decode cX12_put 8 = .ok (.sipush 256, 3) := by decide +kernel
theorem dX12_put_11 : decode cX12_put 11 = .ok (.irem, 1) := by decide +kernel
theorem dX12_put_12 : decode cX12_put 12 = .ok (.iload_n 1, 1) := by decide +kernel
theorem dX12_put_13 : decode cX12_put 13 = .ok (.iastore, 1) := by decide +kernel
theorem dX12_put_14 : decode cX12_put 14 = .ok (.aload_n 0, 1) := by decide +kernel
theorem dX12_put_15 : decode cX12_put 15 = .ok (.dup, 1) := by decide +kernel
theorem dX12_put_16 : decode cX12_put 16 = .ok (.getfield 180, 3) := by decide +kernel
theorem dX12_put_19 : decode cX12_put 19 = .ok (.iconst 1, 1) := by decide +kernel
theorem dX12_put_20 : decode cX12_put 20 = .ok (.iadd, 1) := by decide +kernel
theorem dX12_put_21 : decode cX12_put 21 = .ok (.putfield 180, 3) := by decide +kernel
theorem dX12_put_24 : decode cX12_put 24 = .ok (.aload_n 0, 1) := by decide +kernel
theorem dX12_put_25 : decode cX12_put 25 = .ok (.aload_n 0, 1) := by decide +kernel
theorem dX12_put_26 : decode cX12_put 26 = .ok (.getfield 183, 3) := by decide +kernel
theorem dX12_put_29 : decode cX12_put 29 = .ok (.iload_n 1, 1) := by decide +kernel
theorem dX12_put_30 : decode cX12_put 30 = .ok (.invokestatic 79, 3) := by decide +kernel
theorem dX12_put_33 : decode cX12_put 33 = .ok (.putfield 183, 3) := by decide +kernel
theorem dX12_put_36 : decode cX12_put 36 = .ok (.return_, 1) := by decide +kernel
theorem dX12_putSum_0 : decode cX12_putSum 0 = .ok (.ldc 83, 2) := by decide +kernel
theorem dX12_putSum_2 : decode cX12_putSum 2 = .ok (.aload_n 0, 1) := by decide +kernel
theorem dX12_putSum_3 : decode cX12_putSum 3 = .ok (.getfield 183, 3) := by decide +kernel
theorem dX12_putSum_6 : decode cX12_putSum 6 = .ok (.isub, 1) := by decide +kernel
theorem dX12_putSum_7 : decode cX12_putSum 7 = .ok (.istore_n 1, 1) := by decide +kernel
theorem dX12_putSum_8 : decode cX12_putSum 8 = .ok (.aload_n 0, 1) := by decide +kernel
theorem dX12_putSum_9 : decode cX12_putSum 9 = .ok (.iload_n 1, 1) := by decide +kernel
theorem dX12_putSum_10 : decode cX12_putSum 10 = .ok (.sipush 256, 3) := by decide +kernel
theorem dX12_putSum_13 : decode cX12_putSum 13 = .ok (.irem, 1) := by decide +kernel
theorem dX12_putSum_14 : decode cX12_putSum 14 = .ok (.invokevirtual 186, 3) := by decide +kernel
theorem dX12_putSum_17 : decode cX12_putSum 17 = .ok (.aload_n 0, 1) := by decide +kernel
theorem dX12_putSum_18 : decode cX12_putSum 18 = .ok (.iload_n 1, 1) := by decide +kernel
theorem dX12_putSum_19 : decode cX12_putSum 19 = .ok (.sipush 256, 3) := by decide +kernel
theorem dX12_putSum_22 : decode cX12_putSum 22 = .ok (.idiv, 1) := by decide +kernel
theorem dX12_putSum_23 : decode cX12_putSum 23 = .ok (.invokevirtual 186, 3) := by decide +kernel
theorem dX12_putSum_26 : decode cX12_putSum 26 = .ok (.aload_n 0, 1) := by decide +kernel
theorem dX12_putSum_27 : decode cX12_putSum 27 = .ok (.iconst 0, 1) := by decide +kernel
theorem dX12_putSum_28 : decode cX12_putSum 28 = .ok (.putfield 183, 3) := by decide +kernel
theorem dX12_putSum_31 : decode cX12_putSum 31 = .ok (.return_, 1) := by decide +kernel
theorem dX12_send_0 : decode cX12_send 0 = .ok (.iconst 0, 1) := by decide +kernel
theorem dX12_send_1 : decode cX12_send 1 = .ok (.istore_n 1, 1) := by decide +kernel
theorem dX12_send_2 : decode cX12_send 2 = .ok (.iload_n 1, 1) := by decide +kernel
theorem dX12_send_3 : decode cX12_send 3 = .ok (.aload_n 0, 1) := by decide +kernel
theorem dX12_send_4 : decode cX12_send 4 = .ok (.getfield 123, 3) := by decide +kernel
theorem dX12_send_7 : decode cX12_send 7 = .ok (.if_icmp .ge 190, 3) := by decide +kernel
theorem dX12_send_10 : decode cX12_send 10 = .ok (.aload_n 0, 1) := by decide +kernel
theorem dX12_send_11 : decode cX12_send 11 = .ok (.getfield 123, 3) := by decide +kernel
theorem dX12_send_14 : decode cX12_send 14 = .ok (.iload_n 1, 1) := by decide +kernel
theorem dX12_send_15 : decode cX12_send 15 = .ok (.isub, 1) := by decide +kernel
theorem dX12_send_16 : decode cX12_send 16 = .ok (.bipush 39, 2) := by decide +kernel
theorem dX12_send_18 : decode cX12_send 18 = .ok (.if_icmp .ge 12, 3) := by decide +kernel
theorem dX12_send_21 : decode cX12_send 21 = .ok (.aload_n 0, 1) := by decide +kernel
theorem dX12_send_22 : decode cX12_send 22 = .ok (.getfield 123, 3) := by decide +kernel
theorem dX12_send_25 : decode cX12_send 25 = .ok (.iload_n 1, 1) := by decide +kernel
theorem dX12_send_26 : decode cX12_send 26 = .ok (.isub, 1) := by decide +kernel
theorem dX12_send_27 : decode cX12_send 27 = .ok (.goto 5, 3) := by decide +kernel
theorem dX12_send_30 : decode cX12_send 30 = .ok (.bipush 39, 2) := by decide +kernel
theorem dX12_send_32 : decode cX12_send 32 = .ok (.istore_n 2, 1) := by decide +kernel
theorem dX12_send_33 : decode cX12_send 33 = .ok (.aload_n 0, 1) := by decide +kernel
theorem dX12_send_34 : decode cX12_send 34 = .ok (.iconst 5, 1) := by decide +kernel
theorem dX12_send_35 : decode cX12_send 35 = .ok (.invokevirtual 186, 3) := by decide +kernel
theorem dX12_send_38 : decode cX12_send 38 = .ok (.aload_n 0, 1) := by decide +kernel
theorem dX12_send_39 : decode cX12_send 39 = .ok (.bipush 100, 2) := by decide +kernel
theorem dX12_send_41 : decode cX12_send 41 = .ok (.invokevirtual 186, 3) := by decide +kernel
theorem dX12_send_44 : decode cX12_send 44 = .ok (.aload_n 0, 1) := by decide +kernel
theorem dX12_send_45 : decode cX12_send 45 = .ok (.iload_n 2, 1) := by decide +kernel
theorem dX12_send_46 : decode cX12_send 46 = .ok (.bipush 6, 2) := by decide +kernel
theorem dX12_send_48 : decode cX12_send 48 = .ok (.iadd, 1) := by decide +kernel
theorem dX12_send_49 : decode cX12_send 49 = .ok (.invokevirtual 186, 3) := by decide +kernel
theorem dX12_send_52 : decode cX12_send 52 = .ok (.aload_n 0, 1) := by decide +kernel
theorem dX12_send_53 : decode cX12_send 53 = .ok (.bipush 68, 2) := by decide +kernel
theorem dX12_send_55 : decode cX12_send 55 = .ok (.invokevirtual 186, 3) := by decide +kernel
theorem dX12_send_58 : decode cX12_send 58 = .ok (.aload_n 0, 1) := by decide +kernel
theorem dX12_send_59 : decode cX12_send 59 = .ok (.aload_n 0, 1) := by decide +kernel
theorem dX12_send_60 : decode cX12_send 60 = .ok (.getfield 108, 3) := by decide +kernel
theorem dX12_send_63 : decode cX12_send 63 = .ok (.sipush 256, 3) := by decide +kernel
theorem dX12_send_66 : decode cX12_send 66 = .ok (.irem, 1) := by decide +kernel
theorem dX12_send_67 : decode cX12_send 67 = .ok (.invokevirtual 186, 3) := by decide +kernel
theorem dX12_send_70 : decode cX12_send 70 = .ok (.aload_n 0, 1) := by decide +kernel
theorem dX12_send_71 : decode cX12_send 71 = .ok (.aload_n 0, 1) := by decide +kernel
theorem dX12_send_72 : decode cX12_send 72 = .ok (.getfield 108, 3) := by decide +kernel
theorem dX12_send_75 : decode cX12_send 75 = .ok (.sipush 256, 3) := by decide +kernel
theorem dX12_send_78 : decode cX12_send 78 = .ok (.idiv, 1) := by decide +kernel
theorem dX12_send_79 : decode cX12_send 79 = .ok (.invokevirtual 186, 3) := by decide +kernel
theorem dX12_send_82 : decode cX12_send 82 = .ok (.aload_n 0, 1) := by decide +kernel
theorem dX12_send_83 : decode cX12_send 83 = .ok (.bipush 10, 2) := by decide +kernel
theorem dX12_send_85 : decode cX12_send 85 = .ok (.invokevirtual 186, 3) := by decide +kernel
theorem dX12_send_88 : decode cX12_send 88 = .ok (.aload_n 0, 1) := by decide +kernel
theorem dX12_send_89 : decode cX12_send 89 = .ok (.iconst 0, 1) := by decide +kernel
theorem dX12_send_90 : decode cX12_send 90 = .ok (.invokevirtual 186, 3) := by decide +kernel
theorem dX12_send_93 : decode cX12_send 93 = .ok (.aload_n 0, 1) := by decide +kernel
theorem dX12_send_94 : decode cX12_send 94 = .ok (.invokevirtual 189, 3) := by decide +kernel
theorem dX12_send_97 : decode cX12_send 97 = .ok (.aload_n 0, 1) := by decide +kernel
theorem dX12_send_98 : decode cX12_send 98 = .ok (.aload_n 0, 1) := by decide +kernel
theorem dX12_send_99 : decode cX12_send 99 = .ok (.getfield 192, 3) := by decide +kernel
theorem dX12_send_102 : decode cX12_send 102 = .ok (.iload_n 1, 1) := by decide +kernel
theorem dX12_send_103 : decode cX12_send 103 = .ok (.ifCond .ne 8, 3) := by decide +kernel
theorem dX12_send_106 : decode cX12_send 106 = .ok (.bipush 64, 2) := by decide +kernel
theorem dX12_send_108 : decode cX12_send 108 = .ok (.goto 4, 3) := by decide +kernel
theorem dX12_send_111 : decode cX12_send 111 = .ok (.iconst 0, 1) := by decide +kernel
theorem dX12_send_112 : decode cX12_send 112 = .ok (.iadd, 1) := by decide +kernel
theorem dX12_send_113 : decode cX12_send 113 = .ok (.iload_n 1, 1) := by decide +kernel
theorem dX12_send_114 : decode cX12_send 114 = .ok (.iload_n 2, 1) := by decide +kernel
theorem dX12_send_115 : decode cX12_send 115 = .ok (.iadd, 1) := by decide +kernel
theorem dX12_send_116 : decode cX12_send 116 = .ok (.aload_n 0, 1) := by decide +kernel
theorem dX12_send_117 : decode cX12_send 117 = .ok (.getfield 123, 3) := by decide +kernel
theorem dX12_send_120 : decode cX12_send 120 = .ok (.if_icmp .ne 9, 3) := by decide +kernel
theorem dX12_send_123 : decode cX12_send 123 = .ok (.sipush 128, 3) := by decide +kernel
theorem dX12_send_126 : decode cX12_send 126 = .ok (.goto 4, 3) := by decide +kernel
theorem dX12_send_129 : decode cX12_send 129 = .ok (.iconst 0, 1) := by decide +kernel
theorem dX12_send_130 : decode cX12_send 130 = .ok (.iadd, 1) := by decide +kernel
theorem dX12_send_131 : decode cX12_send 131 = .ok (.invokevirtual 186, 3) := by decide +kernel
theorem dX12_send_134 : decode cX12_send 134 = .ok (.aload_n 0, 1) := by decide +kernel
theorem dX12_send_135 : decode cX12_send 135 = .ok (.aload_n 0, 1) := by decide +kernel
theorem dX12_send_136 : decode cX12_send 136 = .ok (.getfield 192, 3) := by decide +kernel
theorem dX12_send_139 : decode cX12_send 139 = .ok (.iconst 1, 1) := by decide +kernel
theorem dX12_send_140 : decode cX12_send 140 = .ok (.iadd, 1) := by decide +kernel
theorem dX12_send_141 : decode cX12_send 141 = .ok (.bipush 64, 2) := by decide +kernel
theorem dX12_send_143 : decode cX12_send 143 = .ok (.irem, 1) := by decide +kernel
theorem dX12_send_144 : decode cX12_send 144 = .ok (.putfield 192, 3) := by decide +kernel
theorem dX12_send_147 : decode cX12_send 147 = .ok (.iconst 1, 1) := by decide +kernel
theorem dX12_send_148 : decode cX12_send 148 = .ok (.istore_n 3, 1) := by decide +kernel
theorem dX12_send_149 : decode cX12_send 149 = .ok (.iload_n 3, 1) := by decide +kernel
theorem dX12_send_150 : decode cX12_send 150 = .ok (.iload_n 2, 1) := by decide +kernel
theorem dX12_send_151 : decode cX12_send 151 = .ok (.if_icmp .gt 34, 3) := by decide +kernel
theorem dX12_send_154 : decode cX12_send 154 = .ok (.iload_n 3, 1) := by decide +kernel
theorem dX12_send_155 : decode cX12_send 155 = .ok (.bipush 16, 2) := by decide +kernel
theorem dX12_send_157 : decode cX12_send 157 = .ok (.irem, 1) := by decide +kernel
theorem dX12_send_158 : decode cX12_send 158 = .ok (.ifCond .ne 7, 3) := by decide +kernel
theorem dX12_send_161 : decode cX12_send 161 = .ok (.aload_n 0, 1) := by decide +kernel
theorem dX12_send_162 : decode cX12_send 162 = .ok (.invokevirtual 189, 3) := by decide +kernel
theorem dX12_send_165 : decode cX12_send 165 = .ok (.aload_n 0, 1) := by decide +kernel
theorem dX12_send_166 : decode cX12_send 166 = .ok (.aload_n 0, 1) := by decide +kernel
theorem dX12_send_167 : decode cX12_send 167 = .ok (.getfield 49, 3) := by decide +kernel
theorem dX12_send_170 : decode cX12_send 170 = .ok (.iload_n 1, 1) := by decide +kernel
theorem dX12_send_171 : decode cX12_send 171 = .ok (.iload_n 3, 1) := by decide +kernel
theorem dX12_send_172 : decode cX12_send 172 = .ok (.iadd, 1) := by decide +kernel
theorem dX12_send_173 : decode cX12_send 173 = .ok (.iconst 1, 1) := by decide +kernel
theorem dX12_send_174 : decode cX12_send 174 = .ok (.isub, 1) := by decide +kernel
theorem dX12_send_175 : decode cX12_send 175 = .ok (.iaload, 1) := by decide +kernel
theorem dX12_send_176 : decode cX12_send 176 = .ok (.invokevirtual 186, 3) := by decide +kernel
theorem dX12_send_179 : decode cX12_send 179 = .ok (.iinc 3 1, 3) := by decide +kernel
theorem dX12_send_182 : decode cX12_send 182 = .ok (.goto (-33), 3) := by decide +kernel
theorem dX12_send_185 : decode cX12_send 185 = .ok (.aload_n 0, 1) := by decide +kernel
theorem dX12_send_186 : decode cX12_send 186 = .ok (.invokevirtual 189, 3) := by decide +kernel
theorem dX12_send_189 : decode cX12_send 189 = .ok (.iload_n 1, 1) := by decide +kernel
theorem dX12_send_190 : decode cX12_send 190 = .ok (.bipush 39, 2) := by decide +kernel
theorem dX12_send_192 : decode cX12_send 192 = .ok (.iadd, 1) := by decide +kernel
theorem dX12_send_193 : decode cX12_send 193 = .ok (.istore_n 1, 1) := by decide +kernel
theorem dX12_send_194 : decode cX12_send 194 = .ok (.goto (-192), 3) := by decide +kernel
theorem dX12_send_197 : decode cX12_send 197 = .ok (.return_, 1) := by decide +kernel
theorem dX12_sent_0 : decode cX12_sent 0 = .ok (.aload_n 0, 1) := by decide +kernel
theorem dX12_sent_1 : decode cX12_sent 1 = .ok (.iload_n 1, 1) := by decide +kernel
theorem dX12_sent_2 : decode cX12_sent 2 = .ok (.iconst (-1), 1) := by decide +kernel
theorem dX12_sent_3 : decode cX12_sent 3 = .ok (.if_icmp .lt 18, 3) := by decide +kernel
theorem dX12_sent_6 : decode cX12_sent 6 = .ok (.iload_n 1, 1) := by decide +kernel
theorem dX12_sent_7 : decode cX12_sent 7 = .ok (.sipush 255, 3) := by decide +kernel
theorem dX12_sent_10 : decode cX12_sent 10 = .ok (.if_icmp .gt 11, 3) := by decide +kernel
theorem dX12_sent_13 : decode cX12_sent 13 = .ok (.iload_n 1, 1) := by decide +kernel
theorem dX12_sent_14 : decode cX12_sent 14 = .ok (.aload_n 0, 1) := by decide +kernel
theorem dX12_sent_15 : decode cX12_sent 15 = .ok (.getfield 180, 3) := by decide +kernel
theorem dX12_sent_18 : decode cX12_sent 18 = .ok (.if_icmp .lt 7, 3) := by decide +kernel
theorem dX12_sent_21 : decode cX12_sent 21 = .ok (.iconst 1, 1) := by decide +kernel
theorem dX12_sent_22 : decode cX12_sent 22 = .ok (.goto 4, 3) := by decide +kernel
theorem dX12_sent_25 : decode cX12_sent 25 = .ok (.iconst 0, 1) := by decide +kernel
theorem dX12_sent_26 : decode cX12_sent 26 = .ok (.invokevirtual 65, 3) := by decide +kernel
theorem dX12_sent_29 : decode cX12_sent 29 = .ok (.ifCond .eq 5, 3) := by decide +kernel
theorem dX12_sent_32 : decode cX12_sent 32 = .ok (.iconst 0, 1) := by decide +kernel
theorem dX12_sent_33 : decode cX12_sent 33 = .ok (.ireturn, 1) := by decide +kernel
theorem dX12_sent_34 : decode cX12_sent 34 = .ok (.iload_n 1, 1) := by decide +kernel
theorem dX12_sent_35 : decode cX12_sent 35 = .ok (.ifCond .ge 10, 3) := by decide +kernel
theorem dX12_sent_38 : decode cX12_sent 38 = .ok (.aload_n 0, 1) := by decide +kernel
theorem dX12_sent_39 : decode cX12_sent 39 = .ok (.getfield 180, 3) := by decide +kernel
theorem dX12_sent_42 : decode cX12_sent 42 = .ok (.goto 20, 3) := by decide +kernel
theorem dX12_sent_45 : decode cX12_sent 45 = .ok (.aload_n 0, 1) := by decide +kernel
theorem dX12_sent_46 : decode cX12_sent 46 = .ok (.getfield 52, 3) := by decide +kernel
theorem dX12_sent_49 : decode cX12_sent 49 = .ok (.aload_n 0, 1) := by decide +kernel
theorem dX12_sent_50 : decode cX12_sent 50 = .ok (.getfield 180, 3) := by decide +kernel
theorem dX12_sent_53 : decode cX12_sent 53 = .ok (.iconst 1, 1) := by decide +kernel
theorem dX12_sent_54 : decode cX12_sent 54 = .ok (.isub, 1) := by decide +kernel
theorem dX12_sent_55 : decode cX12_sent 55 = .ok (.iload_n 1, 1) := by decide +kernel
theorem dX12_sent_56 : decode cX12_sent 56 = .ok (.isub, 1) := by decide +kernel
theorem dX12_sent_57 : decode cX12_sent 57 = .ok (.sipush 256, 3) := by decide +kernel
theorem dX12_sent_60 : decode cX12_sent 60 = .ok (.irem, 1) := by decide +kernel
theorem dX12_sent_61 : decode cX12_sent 61 = .ok (.iaload, 1) := by decide +kernel
theorem dX12_sent_62 : decode cX12_sent 62 = .ok (.ireturn, 1) := by decide +kernel
theorem dX12_refuse_0 : decode cX12_refuse 0 = .ok (.aload_n 0, 1) := by decide +kernel
theorem dX12_refuse_1 : decode cX12_refuse 1 = .ok (.getfield 55, 3) := by decide +kernel
theorem dX12_refuse_4 : decode cX12_refuse 4 = .ok (.iconst 0, 1) := by decide +kernel
theorem dX12_refuse_5 : decode cX12_refuse 5 = .ok (.iload_n 1, 1) := by decide +kernel
theorem dX12_refuse_6 : decode cX12_refuse 6 = .ok (.sipush 128, 3) := by decide +kernel
theorem dX12_refuse_9 : decode cX12_refuse 9 = .ok (.irem, 1) := by decide +kernel
theorem dX12_refuse_10 : decode cX12_refuse 10 = .ok (.sipush 128, 3) := by decide +kernel
theorem dX12_refuse_13 : decode cX12_refuse 13 = .ok (.iadd, 1) := by decide +kernel
theorem dX12_refuse_14 : decode cX12_refuse 14 = .ok (.iastore, 1) := by decide +kernel
theorem dX12_refuse_15 : decode cX12_refuse 15 = .ok (.aload_n 0, 1) := by decide +kernel
theorem dX12_refuse_16 : decode cX12_refuse 16 = .ok (.getfield 55, 3) := by decide +kernel
theorem dX12_refuse_19 : decode cX12_refuse 19 = .ok (.iconst 1, 1) := by decide +kernel
theorem dX12_refuse_20 : decode cX12_refuse 20 = .ok (.iload_n 2, 1) := by decide +kernel
theorem dX12_refuse_21 : decode cX12_refuse 21 = .ok (.iastore, 1) := by decide +kernel
theorem dX12_refuse_22 : decode cX12_refuse 22 = .ok (.aload_n 0, 1) := by decide +kernel
theorem dX12_refuse_23 : decode cX12_refuse 23 = .ok (.iconst 2, 1) := by decide +kernel
theorem dX12_refuse_24 : decode cX12_refuse 24 = .ok (.putfield 195, 3) := by decide +kernel
theorem dX12_refuse_27 : decode cX12_refuse 27 = .ok (.return_, 1) := by decide +kernel
theorem dX12_ask_0 : decode cX12_ask 0 = .ok (.aload_n 0, 1) := by decide +kernel
theorem dX12_ask_1 : decode cX12_ask 1 = .ok (.iload_n 3, 1) := by decide +kernel
theorem dX12_ask_2 : decode cX12_ask 2 = .ok (.iconst 1, 1) := by decide +kernel
theorem dX12_ask_3 : decode cX12_ask 3 = .ok (.if_icmp .lt 9, 3) := by decide +kernel
theorem dX12_ask_6 : decode cX12_ask 6 = .ok (.iload_n 3, 1) := by decide +kernel
theorem dX12_ask_7 : decode cX12_ask 7 = .ok (.bipush 8, 2) := by decide +kernel
theorem dX12_ask_9 : decode cX12_ask 9 = .ok (.if_icmp .le 7, 3) := by decide +kernel
theorem dX12_ask_12 : decode cX12_ask 12 = .ok (.iconst 1, 1) := by decide +kernel
theorem dX12_ask_13 : decode cX12_ask 13 = .ok (.goto 4, 3) := by decide +kernel
theorem dX12_ask_16 : decode cX12_ask 16 = .ok (.iconst 0, 1) := by decide +kernel
theorem dX12_ask_17 : decode cX12_ask 17 = .ok (.invokevirtual 65, 3) := by decide +kernel
theorem dX12_ask_20 : decode cX12_ask 20 = .ok (.ifCond .eq 5, 3) := by decide +kernel
theorem dX12_ask_23 : decode cX12_ask 23 = .ok (.iconst 0, 1) := by decide +kernel
theorem dX12_ask_24 : decode cX12_ask 24 = .ok (.ireturn, 1) := by decide +kernel
theorem dX12_ask_25 : decode cX12_ask 25 = .ok (.lload_n 1, 1) := by decide +kernel
theorem dX12_ask_26 : decode cX12_ask 26 = .ok (.bipush 8, 2) := by decide +kernel
theorem dX12_ask_28 : decode cX12_ask 28 = .ok (.iload_n 3, 1) := by decide +kernel
theorem dX12_ask_29 : decode cX12_ask 29 = .ok (.iconst 1, 1) := by decide +kernel
theorem dX12_ask_30 : decode cX12_ask 30 = .ok (.isub, 1) := by decide +kernel
theorem dX12_ask_31 : decode cX12_ask 31 = .ok (.imul, 1) := by decide +kernel
theorem dX12_ask_32 : decode cX12_ask 32 = .ok (.lshr, 1) := by decide +kernel
theorem dX12_ask_33 : decode cX12_ask 33 = .ok (.ldc2_w 77, 3) := by decide +kernel
theorem dX12_ask_36 : decode cX12_ask 36 = .ok (.land, 1) := by decide +kernel
theorem dX12_ask_37 : decode cX12_ask 37 = .ok (.l2i, 1) := by decide +kernel
theorem dX12_ask_38 : decode cX12_ask 38 = .ok (.istore 4, 2) := by decide +kernel
theorem dX12_ask_40 : decode cX12_ask 40 = .ok (.iload_n 3, 1) := by decide +kernel
theorem dX12_ask_41 : decode cX12_ask 41 = .ok (.iconst 5, 1) := by decide +kernel
theorem dX12_ask_42 : decode cX12_ask 42 = .ok (.if_icmp .ne 15, 3) := by decide +kernel
theorem dX12_ask_45 : decode cX12_ask 45 = .ok (.lload_n 1, 1) := by decide +kernel
theorem dX12_ask_46 : decode cX12_ask 46 = .ok (.bipush 16, 2) := by decide +kernel
theorem dX12_ask_48 : decode cX12_ask 48 = .ok (.lshr, 1) := by decide +kernel
theorem dX12_ask_49 : decode cX12_ask 49 = .ok (.ldc2_w 198, 3) := by decide +kernel
theorem dX12_ask_52 : decode cX12_ask 52 = .ok (.land, 1) := by decide +kernel
theorem dX12_ask_53 : decode cX12_ask 53 = .ok (.l2i, 1) := by decide +kernel
theorem dX12_ask_54 : decode cX12_ask 54 = .ok (.goto 4, 3) := by decide +kernel
theorem dX12_ask_57 : decode cX12_ask 57 = .ok (.iconst 0, 1) := by decide +kernel
theorem dX12_ask_58 : decode cX12_ask 58 = .ok (.istore 5, 2) := by decide +kernel
theorem dX12_ask_60 : decode cX12_ask 60 = .ok (.iload_n 3, 1) := by decide +kernel
theorem dX12_ask_61 : decode cX12_ask 61 = .ok (.iconst 5, 1) := by decide +kernel
theorem dX12_ask_62 : decode cX12_ask 62 = .ok (.if_icmp .ne 12, 3) := by decide +kernel
theorem dX12_ask_65 : decode cX12_ask 65 = .ok (.lload_n 1, 1) := by decide +kernel
theorem dX12_ask_66 : decode cX12_ask 66 = .ok (.ldc2_w 198, 3) := by decide +kernel
theorem dX12_ask_69 : decode cX12_ask 69 = .ok (.land, 1) := by decide +kernel
theorem dX12_ask_70 : decode cX12_ask 70 = .ok (.l2i, 1) := by decide +kernel
theorem dX12_ask_71 : decode cX12_ask 71 = .ok (.goto 4, 3) := by decide +kernel
theorem dX12_ask_74 : decode cX12_ask 74 = .ok (.iconst 0, 1) := by decide +kernel
theorem dX12_ask_75 : decode cX12_ask 75 = .ok (.istore 6, 2) := by decide +kernel
theorem dX12_ask_77 : decode cX12_ask 77 = .ok (.iload 4, 2) := by decide +kernel
theorem dX12_ask_79 : decode cX12_ask 79 = .ok (.iconst 1, 1) := by decide +kernel
theorem dX12_ask_80 : decode cX12_ask 80 = .ok (.if_icmp .ne 8, 3) := by decide +kernel
theorem dX12_ask_83 : decode cX12_ask 83 = .ok (.bipush 8, 2) := by decide +kernel
theorem dX12_ask_85 : decode cX12_ask 85 = .ok (.goto 4, 3) := by decide +kernel
theorem dX12_ask_88 : decode cX12_ask 88 = .ok (.iconst 4, 1) := by decide +kernel
theorem dX12_ask_89 : decode cX12_ask 89 = .ok (.istore 7, 2) := by decide +kernel
theorem dX12_ask_91 : decode cX12_ask 91 = .ok (.iload 4, 2) := by decide +kernel
theorem dX12_ask_93 : decode cX12_ask 93 = .ok (.iconst 1, 1) := by decide +kernel
theorem dX12_ask_94 : decode cX12_ask 94 = .ok (.if_icmp .eq 19, 3) := by decide +kernel
theorem dX12_ask_97 : decode cX12_ask 97 = .ok (.iload 4, 2) := by decide +kernel
theorem dX12_ask_99 : decode cX12_ask 99 = .ok (.iconst 4, 1) := by decide +kernel
theorem dX12_ask_100 : decode cX12_ask 100 = .ok (.if_icmp .eq 13, 3) := by decide +kernel
theorem dX12_ask_103 : decode cX12_ask 103 = .ok (.aload_n 0, 1) := by decide +kernel
theorem dX12_ask_104 : decode cX12_ask 104 = .ok (.iload 4, 2) := by decide +kernel
theorem dX12_ask_106 : decode cX12_ask 106 = .ok (.iconst 1, 1) := by decide +kernel
theorem dX12_ask_107 : decode cX12_ask 107 = .ok (.invokevirtual 200, 3) := by decide +kernel
theorem dX12_ask_110 : decode cX12_ask 110 = .ok (.goto 237, 3) := by decide +kernel
theorem dX12_ask_113 : decode cX12_ask 113 = .ok (.iload 6, 2) := by decide +kernel
theorem dX12_ask_115 : decode cX12_ask 115 = .ok (.iconst 1, 1) := by decide +kernel
theorem dX12_ask_116 : decode cX12_ask 116 = .ok (.isub, 1) := by decide +kernel
theorem dX12_ask_117 : decode cX12_ask 117 = .ok (.iload 7, 2) := by decide +kernel
theorem dX12_ask_119 : decode cX12_ask 119 = .ok (.invokestatic 61, 3) := by decide +kernel
theorem dX12_ask_122 : decode cX12_ask 122 = .ok (.ifCond .eq 13, 3) := by decide +kernel
theorem dX12_ask_125 : decode cX12_ask 125 = .ok (.aload_n 0, 1) := by decide +kernel
theorem dX12_ask_126 : decode cX12_ask 126 = .ok (.iload 4, 2) := by decide +kernel
theorem dX12_ask_128 : decode cX12_ask 128 = .ok (.iconst 3, 1) := by decide +kernel
theorem dX12_ask_129 : decode cX12_ask 129 = .ok (.invokevirtual 200, 3) := by decide +kernel
theorem dX12_ask_132 : decode cX12_ask 132 = .ok (.goto 215, 3) := by decide +kernel
theorem dX12_ask_135 : decode cX12_ask 135 = .ok (.iload 5, 2) := by decide +kernel
theorem dX12_ask_137 : decode cX12_ask 137 = .ok (.iload 6, 2) := by decide +kernel
theorem dX12_ask_139 : decode cX12_ask 139 = .ok (.iadd, 1) := by decide +kernel
theorem dX12_ask_140 : decode cX12_ask 140 = .ok (.iload 4, 2) := by decide +kernel
theorem dX12_ask_142 : decode cX12_ask 142 = .ok (.iconst 1, 1) := by decide +kernel
theorem dX12_ask_143 : decode cX12_ask 143 = .ok (.if_icmp .ne 8, 3) := by decide +kernel
theorem dX12_ask_146 : decode cX12_ask 146 = .ok (.bipush 8, 2) := by decide +kernel
theorem dX12_ask_148 : decode cX12_ask 148 = .ok (.goto 5, 3) := by decide +kernel
theorem dX12_ask_151 : decode cX12_ask 151 = .ok (.bipush 16, 2) := by decide +kernel
theorem dX12_ask_153 : decode cX12_ask 153 = .ok (.if_icmp .le 13, 3) := by decide +kernel
theorem dX12_ask_156 : decode cX12_ask 156 = .ok (.aload_n 0, 1) := by decide +kernel
theorem dX12_ask_157 : decode cX12_ask 157 = .ok (.iload 4, 2) := by decide +kernel
theorem dX12_ask_159 : decode cX12_ask 159 = .ok (.iconst 2, 1) := by decide +kernel
theorem dX12_ask_160 : decode cX12_ask 160 = .ok (.invokevirtual 200, 3) := by decide +kernel
theorem dX12_ask_163 : decode cX12_ask 163 = .ok (.goto 184, 3) := by decide +kernel
theorem dX12_ask_166 : decode cX12_ask 166 = .ok (.aload_n 0, 1) := by decide +kernel
theorem dX12_ask_167 : decode cX12_ask 167 = .ok (.getfield 55, 3) := by decide +kernel
theorem dX12_ask_170 : decode cX12_ask 170 = .ok (.iconst 0, 1) := by decide +kernel
theorem dX12_ask_171 : decode cX12_ask 171 = .ok (.iload 4, 2) := by decide +kernel
theorem dX12_ask_173 : decode cX12_ask 173 = .ok (.iastore, 1) := by decide +kernel
theorem dX12_ask_174 : decode cX12_ask 174 = .ok (.aload_n 0, 1) := by decide +kernel
theorem dX12_ask_175 : decode cX12_ask 175 = .ok (.getfield 55, 3) := by decide +kernel
theorem dX12_ask_178 : decode cX12_ask 178 = .ok (.iconst 1, 1) := by decide +kernel
theorem dX12_ask_179 : decode cX12_ask 179 = .ok (.iload 4, 2) := by decide +kernel
theorem dX12_ask_181 : decode cX12_ask 181 = .ok (.iconst 1, 1) := by decide +kernel
theorem dX12_ask_182 : decode cX12_ask 182 = .ok (.if_icmp .ne 7, 3) := by decide +kernel
theorem dX12_ask_185 : decode cX12_ask 185 = .ok (.iconst 1, 1) := by decide +kernel
theorem dX12_ask_186 : decode cX12_ask 186 = .ok (.goto 7, 3) := by decide +kernel
theorem dX12_ask_189 : decode cX12_ask 189 = .ok (.iconst 2, 1) := by decide +kernel
theorem dX12_ask_190 : decode cX12_ask 190 = .ok (.iload 6, 2) := by decide +kernel
theorem dX12_ask_192 : decode cX12_ask 192 = .ok (.imul, 1) := by decide +kernel
theorem dX12_ask_193 : decode cX12_ask 193 = .ok (.iastore, 1) := by decide +kernel
theorem dX12_ask_194 : decode cX12_ask 194 = .ok (.aload_n 0, 1) := by decide +kernel
theorem dX12_ask_195 : decode cX12_ask 195 = .ok (.getfield 55, 3) := by decide +kernel
theorem dX12_ask_198 : decode cX12_ask 198 = .ok (.iconst 2, 1) := by decide +kernel
theorem dX12_ask_199 : decode cX12_ask 199 = .ok (.iconst 0, 1) := by decide +kernel
theorem dX12_ask_200 : decode cX12_ask 200 = .ok (.iastore, 1) := by decide +kernel
theorem dX12_ask_201 : decode cX12_ask 201 = .ok (.iconst 0, 1) := by decide +kernel
theorem dX12_ask_202 : decode cX12_ask 202 = .ok (.istore 8, 2) := by decide +kernel
theorem dX12_ask_204 : decode cX12_ask 204 = .ok (.iload 8, 2) := by decide +kernel
theorem dX12_ask_206 : decode cX12_ask 206 = .ok (.iload 6, 2) := by decide +kernel
theorem dX12_ask_208 : decode cX12_ask 208 = .ok (.if_icmp .ge 127, 3) := by decide +kernel
theorem dX12_ask_211 : decode cX12_ask 211 = .ok (.iload 4, 2) := by decide +kernel
theorem dX12_ask_213 : decode cX12_ask 213 = .ok (.iconst 1, 1) := by decide +kernel
theorem dX12_ask_214 : decode cX12_ask 214 = .ok (.if_icmp .ne 32, 3) := by decide +kernel
theorem dX12_ask_217 : decode cX12_ask 217 = .ok (.aload_n 0, 1) := by decide +kernel
theorem dX12_ask_218 : decode cX12_ask 218 = .ok (.getfield 55, 3) := by decide +kernel
theorem dX12_ask_221 : decode cX12_ask 221 = .ok (.iconst 2, 1) := by decide +kernel
theorem dX12_ask_222 : decode cX12_ask 222 = .ok (.aload_n 0, 1) := by decide +kernel
theorem dX12_ask_223 : decode cX12_ask 223 = .ok (.getfield 55, 3) := by decide +kernel
theorem dX12_ask_226 : decode cX12_ask 226 = .ok (.iconst 2, 1) := by decide +kernel
theorem dX12_ask_227 : decode cX12_ask 227 = .ok (.iaload, 1) := by decide +kernel
theorem dX12_ask_228 : decode cX12_ask 228 = .ok (.aload_n 0, 1) := by decide +kernel
theorem dX12_ask_229 : decode cX12_ask 229 = .ok (.getfield 7, 3) := by decide +kernel
theorem dX12_ask_232 : decode cX12_ask 232 = .ok (.iload 5, 2) := by decide +kernel
theorem dX12_ask_234 : decode cX12_ask 234 = .ok (.iload 8, 2) := by decide +kernel
theorem dX12_ask_236 : decode cX12_ask 236 = .ok (.iadd, 1) := by decide +kernel
theorem dX12_ask_237 : decode cX12_ask 237 = .ok (.iaload, 1) := by decide +kernel
theorem dX12_ask_238 : decode cX12_ask 238 = .ok (.iload 8, 2) := by decide +kernel
theorem dX12_ask_240 : decode cX12_ask 240 = .ok (.ishl, 1) := by decide +kernel
theorem dX12_ask_241 : decode cX12_ask 241 = .ok (.iadd, 1) := by decide +kernel
theorem dX12_ask_242 : decode cX12_ask 242 = .ok (.iastore, 1) := by decide +kernel
theorem dX12_ask_243 : decode cX12_ask 243 = .ok (.goto 86, 3) := by decide +kernel
theorem dX12_ask_246 : decode cX12_ask 246 = .ok (.iload 5, 2) := by decide +kernel
theorem dX12_ask_248 : decode cX12_ask 248 = .ok (.iload 8, 2) := by decide +kernel
theorem dX12_ask_250 : decode cX12_ask 250 = .ok (.iadd, 1) := by decide +kernel
theorem dX12_ask_251 : decode cX12_ask 251 = .ok (.istore 9, 2) := by decide +kernel
theorem dX12_ask_253 : decode cX12_ask 253 = .ok (.iload 9, 2) := by decide +kernel
theorem dX12_ask_255 : decode cX12_ask 255 = .ok (.iconst 2, 1) := by decide +kernel
theorem dX12_ask_256 : decode cX12_ask 256 = .ok (.irem, 1) := by decide +kernel
theorem dX12_ask_257 : decode cX12_ask 257 = .ok (.ifCond .ne 21, 3) := by decide +kernel
theorem dX12_ask_260 : decode cX12_ask 260 = .ok (.aload_n 0, 1) := by decide +kernel
theorem dX12_ask_261 : decode cX12_ask 261 = .ok (.getfield 7, 3) := by decide +kernel
theorem dX12_ask_264 : decode cX12_ask 264 = .ok (.bipush 8, 2) := by decide +kernel
theorem dX12_ask_266 : decode cX12_ask 266 = .ok (.iload 9, 2) := by decide +kernel
theorem dX12_ask_268 : decode cX12_ask 268 = .ok (.iconst 2, 1) := by decide +kernel
theorem dX12_ask_269 : decode cX12_ask 269 = .ok (.idiv, 1) := by decide +kernel
theorem dX12_ask_270 : decode cX12_ask 270 = .ok (.iadd, 1) := by decide +kernel
theorem dX12_ask_271 : decode cX12_ask 271 = .ok (.iaload, 1) := by decide +kernel
theorem dX12_ask_272 : decode cX12_ask 272 = .ok (.bipush 16, 2) := by decide +kernel
theorem dX12_ask_274 : decode cX12_ask 274 = .ok (.ishr, 1) := by decide +kernel
theorem dX12_ask_275 : decode cX12_ask 275 = .ok (.goto 15, 3) := by decide +kernel
theorem dX12_ask_278 : decode cX12_ask 278 = .ok (.aload_n 0, 1) := by decide +kernel
theorem dX12_ask_279 : decode cX12_ask 279 = .ok (.getfield 7, 3) := by decide +kernel
theorem dX12_ask_282 : decode cX12_ask 282 = .ok (.bipush 8, 2) := by decide +kernel
theorem dX12_ask_284 : decode cX12_ask 284 = .ok (.iload 9, 2) := by decide +kernel
theorem dX12_ask_286 : decode cX12_ask 286 = .ok (.iconst 2, 1) := by decide +kernel
theorem dX12_ask_287 : decode cX12_ask 287 = .ok (.idiv, 1) := by decide +kernel
theorem dX12_ask_288 : decode cX12_ask 288 = .ok (.iadd, 1) := by decide +kernel
theorem dX12_ask_289 : decode cX12_ask 289 = .ok (.iaload, 1) := by decide +kernel
theorem dX12_ask_290 : decode cX12_ask 290 = .ok (.istore 10, 2) := by decide +kernel
theorem dX12_ask_292 : decode cX12_ask 292 = .ok (.aload_n 0, 1) := by decide +kernel
theorem dX12_ask_293 : decode cX12_ask 293 = .ok (.getfield 55, 3) := by decide +kernel
theorem dX12_ask_296 : decode cX12_ask 296 = .ok (.iconst 2, 1) := by decide +kernel
theorem dX12_ask_297 : decode cX12_ask 297 = .ok (.iconst 2, 1) := by decide +kernel
theorem dX12_ask_298 : decode cX12_ask 298 = .ok (.iload 8, 2) := by decide +kernel
theorem dX12_ask_300 : decode cX12_ask 300 = .ok (.imul, 1) := by decide +kernel
theorem dX12_ask_301 : decode cX12_ask 301 = .ok (.iadd, 1) := by decide +kernel
theorem dX12_ask_302 : decode cX12_ask 302 = .ok (.iload 10, 2) := by decide +kernel
theorem dX12_ask_304 : decode cX12_ask 304 = .ok (.bipush 8, 2) := by decide +kernel
theorem dX12_ask_306 : decode cX12_ask 306 = .ok (.ishr, 1) := by decide +kernel
theorem dX12_ask_307 : decode cX12_ask 307 = .ok (.sipush 255, 3) := by decide +kernel
theorem dX12_ask_310 : decode cX12_ask 310 = .ok (.iand, 1) := by decide +kernel
theorem dX12_ask_311 : decode cX12_ask 311 = .ok (.iastore, 1) := by decide +kernel
theorem dX12_ask_312 : decode cX12_ask 312 = .ok (.aload_n 0, 1) := by decide +kernel
theorem dX12_ask_313 : decode cX12_ask 313 = .ok (.getfield 55, 3) := by decide +kernel
theorem dX12_ask_316 : decode cX12_ask 316 = .ok (.iconst 3, 1) := by decide +kernel
theorem dX12_ask_317 : decode cX12_ask 317 = .ok (.iconst 2, 1) := by decide +kernel
theorem dX12_ask_318 : decode cX12_ask 318 = .ok (.iload 8, 2) := by decide +kernel
theorem dX12_ask_320 : decode cX12_ask 320 = .ok (.imul, 1) := by decide +kernel
theorem dX12_ask_321 : decode cX12_ask 321 = .ok (.iadd, 1) := by decide +kernel
theorem dX12_ask_322 : decode cX12_ask 322 = .ok (.iload 10, 2) := by decide +kernel
theorem dX12_ask_324 : decode cX12_ask 324 = .ok (.sipush 255, 3) := by decide +kernel
theorem dX12_ask_327 : decode cX12_ask 327 = .ok (.iand, 1) := by decide +kernel
theorem dX12_ask_328 : decode cX12_ask 328 = .ok (.iastore, 1) := by decide +kernel
theorem dX12_ask_329 : decode cX12_ask 329 = .ok (.iinc 8 1, 3) := by decide +kernel
theorem dX12_ask_332 : decode cX12_ask 332 = .ok (.goto (-128), 3) := by decide +kernel
theorem dX12_ask_335 : decode cX12_ask 335 = .ok (.aload_n 0, 1) := by decide +kernel
theorem dX12_ask_336 : decode cX12_ask 336 = .ok (.iconst 2, 1) := by decide +kernel
theorem dX12_ask_337 : decode cX12_ask 337 = .ok (.aload_n 0, 1) := by decide +kernel
theorem dX12_ask_338 : decode cX12_ask 338 = .ok (.getfield 55, 3) := by decide +kernel
theorem dX12_ask_341 : decode cX12_ask 341 = .ok (.iconst 1, 1) := by decide +kernel
theorem dX12_ask_342 : decode cX12_ask 342 = .ok (.iaload, 1) := by decide +kernel
theorem dX12_ask_343 : decode cX12_ask 343 = .ok (.iadd, 1) := by decide +kernel
theorem dX12_ask_344 : decode cX12_ask 344 = .ok (.putfield 195, 3) := by decide +kernel
theorem dX12_ask_347 : decode cX12_ask 347 = .ok (.aload_n 0, 1) := by decide +kernel
theorem dX12_ask_348 : decode cX12_ask 348 = .ok (.getfield 195, 3) := by decide +kernel
theorem dX12_ask_351 : decode cX12_ask 351 = .ok (.ireturn, 1) := by decide +kernel
theorem dX12_told_0 : decode cX12_told 0 = .ok (.aload_n 0, 1) := by decide +kernel
theorem dX12_told_1 : decode cX12_told 1 = .ok (.iload_n 1, 1) := by decide +kernel
theorem dX12_told_2 : decode cX12_told 2 = .ok (.aload_n 0, 1) := by decide +kernel
theorem dX12_told_3 : decode cX12_told 3 = .ok (.getfield 195, 3) := by decide +kernel
theorem dX12_told_6 : decode cX12_told 6 = .ok (.invokestatic 61, 3) := by decide +kernel
theorem dX12_told_9 : decode cX12_told 9 = .ok (.invokevirtual 65, 3) := by decide +kernel
theorem dX12_told_12 : decode cX12_told 12 = .ok (.ifCond .eq 7, 3) := by decide +kernel
theorem dX12_told_15 : decode cX12_told 15 = .ok (.iconst 0, 1) := by decide +kernel
theorem dX12_told_16 : decode cX12_told 16 = .ok (.goto 9, 3) := by decide +kernel
theorem dX12_told_19 : decode cX12_told 19 = .ok (.aload_n 0, 1) := by decide +kernel
theorem dX12_told_20 : decode cX12_told 20 = .ok (.getfield 55, 3) := by decide +kernel
theorem dX12_told_23 : decode cX12_told 23 = .ok (.iload_n 1, 1) := by decide +kernel
theorem dX12_told_24 : decode cX12_told 24 = .ok (.iaload, 1) := by decide +kernel
theorem dX12_told_25 : decode cX12_told 25 = .ok (.ireturn, 1) := by decide +kernel

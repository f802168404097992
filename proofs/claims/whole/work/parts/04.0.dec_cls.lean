theorem dX0_init_0 : decode cX0_init 0 = .ok (.aload_n 0, 1) := by decide +kernel
theorem dX0_init_1 : decode cX0_init 1 = .ok (.invokespecial 3, 3) := by decide +kernel
theorem dX0_init_4 : decode cX0_init 4 = .ok (.aload_n 0, 1) := by decide +kernel
theorem dX0_init_5 : decode cX0_init 5 = .ok (.iload_n 1, 1) := by decide +kernel
theorem dX0_init_6 : decode cX0_init 6 = .ok (.newarray .int, 2) := by decide +kernel
theorem dX0_init_8 : decode cX0_init 8 = .ok (.putfield 9, 3) := by decide +kernel
theorem dX0_init_11 : decode cX0_init 11 = .ok (.return_, 1) := by decide +kernel
theorem dX0_length_0 : decode cX0_length 0 = .ok (.aload_n 0, 1) := by decide +kernel
theorem dX0_length_1 : decode cX0_length 1 = .ok (.getfield 15, 3) := by decide +kernel
theorem dX0_length_4 : decode cX0_length 4 = .ok (.ireturn, 1) := by decide +kernel
theorem dX0_room_0 : decode cX0_room 0 = .ok (.aload_n 0, 1) := by decide +kernel
theorem dX0_room_1 : decode cX0_room 1 = .ok (.getfield 9, 3) := by decide +kernel
theorem dX0_room_4 : decode cX0_room 4 = .ok (.arraylength, 1) := by decide +kernel
theorem dX0_room_5 : decode cX0_room 5 = .ok (.aload_n 0, 1) := by decide +kernel
theorem dX0_room_6 : decode cX0_room 6 = .ok (.getfield 15, 3) := by decide +kernel
theorem dX0_room_9 : decode cX0_room 9 = .ok (.isub, 1) := by decide +kernel
theorem dX0_room_10 : decode cX0_room 10 = .ok (.ireturn, 1) := by decide +kernel
theorem dX0_clear_0 : decode cX0_clear 0 = .ok (.aload_n 0, 1) := by decide +kernel
theorem dX0_clear_1 : decode cX0_clear 1 = .ok (.iconst 0, 1) := by decide +kernel
theorem dX0_clear_2 : decode cX0_clear 2 = .ok (.putfield 15, 3) := by decide +kernel
theorem dX0_clear_5 : decode cX0_clear 5 = .ok (.return_, 1) := by decide +kernel
theorem dX0_add_0 : decode cX0_add 0 = .ok (.aload_n 0, 1) := by decide +kernel
theorem dX0_add_1 : decode cX0_add 1 = .ok (.getfield 15, 3) := by decide +kernel
theorem dX0_add_4 : decode cX0_add 4 = .ok (.aload_n 0, 1) := by decide +kernel
theorem dX0_add_5 : decode cX0_add 5 = .ok (.getfield 9, 3) := by decide +kernel
theorem dX0_add_8 : decode cX0_add 8 = .ok (.arraylength, 1) := by decide +kernel
theorem dX0_add_9 : decode cX0_add 9 = .ok (.if_icmp .ge 27, 3) := by decide +kernel
theorem dX0_add_12 : decode cX0_add 12 = .ok (.aload_n 0, 1) := by decide +kernel
theorem dX0_add_13 : decode cX0_add 13 = .ok (.getfield 9, 3) := by decide +kernel
theorem dX0_add_16 : decode cX0_add 16 = .ok (.aload_n 0, 1) := by decide +kernel
theorem dX0_add_17 : decode cX0_add 17 = .ok (.getfield 15, 3) := by decide +kernel
theorem dX0_add_20 : decode cX0_add 20 = .ok (.iload_n 1, 1) := by decide +kernel
theorem dX0_add_21 : decode cX0_add 21 = .ok (.sipush 255, 3) := by decide +kernel
theorem dX0_add_24 : decode cX0_add 24 = .ok (.iand, 1) := by decide +kernel
theorem dX0_add_25 : decode cX0_add 25 = .ok (.iastore, 1) := by decide +kernel
theorem dX0_add_26 : decode cX0_add 26 = .ok (.aload_n 0, 1) := by decide +kernel
theorem dX0_add_27 : decode cX0_add 27 = .ok (.dup, 1) := by decide +kernel
theorem dX0_add_28 : decode cX0_add 28 = .ok (.getfield 15, 3) := by decide +kernel
theorem dX0_add_31 : decode cX0_add 31 = .ok (.iconst 1, 1) := by decide +kernel
theorem dX0_add_32 : decode cX0_add 32 = .ok (.iadd, 1) := by decide +kernel
theorem dX0_add_33 : decode cX0_add 33 = .ok (.putfield 15, 3) := by decide +kernel
theorem dX0_add_36 : decode cX0_add 36 = .ok (.return_, 1) := by decide +kernel
theorem dX0_addValue_0 : decode cX0_addValue 0 = .ok (.iload_n 1, 1) := by decide +kernel
theorem dX0_addValue_1 : decode cX0_addValue 1 = .ok (.ifCond .ne 15, 3) := by decide +kernel
theorem dX0_addValue_4 : decode cX0_addValue 4 = .ok (.aload_n 0, 1) := by decide +kernel
theorem dX0_addValue_5 : decode cX0_addValue 5 = .ok (.iconst 1, 1) := by decide +kernel
theorem dX0_addValue_6 : decode cX0_addValue 6 = .ok (.sipush 128, 3) := by decide +kernel
theorem dX0_addValue_9 : decode cX0_addValue 9 = .ok (.iload_n 2, 1) := by decide +kernel
theorem dX0_addValue_10 : decode cX0_addValue 10 = .ok (.imul, 1) := by decide +kernel
theorem dX0_addValue_11 : decode cX0_addValue 11 = .ok (.iadd, 1) := by decide +kernel
theorem dX0_addValue_12 : decode cX0_addValue 12 = .ok (.invokevirtual 19, 3) := by decide +kernel
theorem dX0_addValue_15 : decode cX0_addValue 15 = .ok (.return_, 1) := by decide +kernel
theorem dX0_addValue_16 : decode cX0_addValue 16 = .ok (.aload_n 0, 1) := by decide +kernel
theorem dX0_addValue_17 : decode cX0_addValue 17 = .ok (.iconst 1, 1) := by decide +kernel
theorem dX0_addValue_18 : decode cX0_addValue 18 = .ok (.invokevirtual 19, 3) := by decide +kernel
theorem dX0_addValue_21 : decode cX0_addValue 21 = .ok (.iconst 0, 1) := by decide +kernel
theorem dX0_addValue_22 : decode cX0_addValue 22 = .ok (.istore_n 3, 1) := by decide +kernel
theorem dX0_addValue_23 : decode cX0_addValue 23 = .ok (.iload_n 3, 1) := by decide +kernel
theorem dX0_addValue_24 : decode cX0_addValue 24 = .ok (.bipush 32, 2) := by decide +kernel
theorem dX0_addValue_26 : decode cX0_addValue 26 = .ok (.if_icmp .ge 16, 3) := by decide +kernel
theorem dX0_addValue_29 : decode cX0_addValue 29 = .ok (.aload_n 0, 1) := by decide +kernel
theorem dX0_addValue_30 : decode cX0_addValue 30 = .ok (.iload_n 2, 1) := by decide +kernel
theorem dX0_addValue_31 : decode cX0_addValue 31 = .ok (.iload_n 3, 1) := by decide +kernel
theorem dX0_addValue_32 : decode cX0_addValue 32 = .ok (.iushr, 1) := by decide +kernel
theorem dX0_addValue_33 : decode cX0_addValue 33 = .ok (.invokevirtual 19, 3) := by decide +kernel
theorem dX0_addValue_36 : decode cX0_addValue 36 = .ok (.iinc 3 8, 3) := by decide +kernel
theorem dX0_addValue_39 : decode cX0_addValue 39 = .ok (.goto (-16), 3) := by decide +kernel
theorem dX0_addValue_42 : decode cX0_addValue 42 = .ok (.return_, 1) := by decide +kernel
theorem dX0_at_0 : decode cX0_at 0 = .ok (.iload_n 1, 1) := by decide +kernel
theorem dX0_at_1 : decode cX0_at 1 = .ok (.ifCond .lt 11, 3) := by decide +kernel
theorem dX0_at_4 : decode cX0_at 4 = .ok (.iload_n 1, 1) := by decide +kernel
theorem dX0_at_5 : decode cX0_at 5 = .ok (.aload_n 0, 1) := by decide +kernel
theorem dX0_at_6 : decode cX0_at 6 = .ok (.getfield 15, 3) := by decide +kernel
theorem dX0_at_9 : decode cX0_at 9 = .ok (.if_icmp .lt 5, 3) := by decide +kernel
theorem dX0_at_12 : decode cX0_at 12 = .ok (.iconst 0, 1) := by decide +kernel
theorem dX0_at_13 : decode cX0_at 13 = .ok (.ireturn, 1) := by decide +kernel
theorem dX0_at_14 : decode cX0_at 14 = .ok (.aload_n 0, 1) := by decide +kernel
theorem dX0_at_15 : decode cX0_at 15 = .ok (.getfield 9, 3) := by decide +kernel
theorem dX0_at_18 : decode cX0_at 18 = .ok (.iload_n 1, 1) := by decide +kernel
theorem dX0_at_19 : decode cX0_at 19 = .ok (.iaload, 1) := by decide +kernel
theorem dX0_at_20 : decode cX0_at 20 = .ok (.ireturn, 1) := by decide +kernel
theorem dX0_replace_0 : decode cX0_replace 0 = .ok (.iload_n 1, 1) := by decide +kernel
theorem dX0_replace_1 : decode cX0_replace 1 = .ok (.ifCond .lt 22, 3) := by decide +kernel
theorem dX0_replace_4 : decode cX0_replace 4 = .ok (.iload_n 1, 1) := by decide +kernel
theorem dX0_replace_5 : decode cX0_replace 5 = .ok (.aload_n 0, 1) := by decide +kernel
theorem dX0_replace_6 : decode cX0_replace 6 = .ok (.getfield 15, 3) := by decide +kernel
theorem dX0_replace_9 : decode cX0_replace 9 = .ok (.if_icmp .ge 14, 3) := by decide +kernel
theorem dX0_replace_12 : decode cX0_replace 12 = .ok (.aload_n 0, 1) := by decide +kernel
theorem dX0_replace_13 : decode cX0_replace 13 = .ok (.getfield 9, 3) := by decide +kernel
theorem dX0_replace_16 : decode cX0_replace 16 = .ok (.iload_n 1, 1) := by decide +kernel
theorem dX0_replace_17 : decode cX0_replace 17 = .ok (.iload_n 2, 1) := by decide +kernel
theorem dX0_replace_18 : decode cX0_replace 18 = .ok (.sipush 255, 3) := by decide +kernel
theorem dX0_replace_21 : decode cX0_replace 21 = .ok (.iand, 1) := by decide +kernel
theorem dX0_replace_22 : decode cX0_replace 22 = .ok (.iastore, 1) := by decide +kernel
theorem dX0_replace_23 : decode cX0_replace 23 = .ok (.return_, 1) := by decide +kernel
theorem dX0_dropFirst_0 : decode cX0_dropFirst 0 = .ok (.iload_n 1, 1) := by decide +kernel
theorem dX0_dropFirst_1 : decode cX0_dropFirst 1 = .ok (.iconst 0, 1) := by decide +kernel
theorem dX0_dropFirst_2 : decode cX0_dropFirst 2 = .ok (.invokestatic 23, 3) := by decide +kernel
theorem dX0_dropFirst_5 : decode cX0_dropFirst 5 = .ok (.aload_n 0, 1) := by decide +kernel
theorem dX0_dropFirst_6 : decode cX0_dropFirst 6 = .ok (.getfield 15, 3) := by decide +kernel
theorem dX0_dropFirst_9 : decode cX0_dropFirst 9 = .ok (.invokestatic 29, 3) := by decide +kernel
theorem dX0_dropFirst_12 : decode cX0_dropFirst 12 = .ok (.istore_n 2, 1) := by decide +kernel
theorem dX0_dropFirst_13 : decode cX0_dropFirst 13 = .ok (.aload_n 0, 1) := by decide +kernel
theorem dX0_dropFirst_14 : decode cX0_dropFirst 14 = .ok (.getfield 9, 3) := by decide +kernel
theorem dX0_dropFirst_17 : decode cX0_dropFirst 17 = .ok (.iload_n 2, 1) := by decide +kernel
theorem dX0_dropFirst_18 : decode cX0_dropFirst 18 = .ok (.aload_n 0, 1) := by decide +kernel
theorem dX0_dropFirst_19 : decode cX0_dropFirst 19 = .ok (.getfield 9, 3) := by decide +kernel
theorem dX0_dropFirst_22 : decode cX0_dropFirst 22 = .ok (.iconst 0, 1) := by decide +kernel
theorem dX0_dropFirst_23 : decode cX0_dropFirst 23 = .ok (.aload_n 0, 1) := by decide +kernel
theorem dX0_dropFirst_24 : decode cX0_dropFirst 24 = .ok (.getfield 15, 3) := by decide +kernel
theorem dX0_dropFirst_27 : decode cX0_dropFirst 27 = .ok (.iload_n 2, 1) := by decide +kernel
theorem dX0_dropFirst_28 : decode cX0_dropFirst 28 = .ok (.isub, 1) := by decide +kernel
theorem dX0_dropFirst_29 : decode cX0_dropFirst 29 = .ok (.invokestatic 32, 3) := by decide +kernel
theorem dX0_dropFirst_32 : decode cX0_dropFirst 32 = .ok (.aload_n 0, 1) := by decide +kernel
theorem dX0_dropFirst_33 : decode cX0_dropFirst 33 = .ok (.dup, 1) := by decide +kernel
theorem dX0_dropFirst_34 : decode cX0_dropFirst 34 = .ok (.getfield 15, 3) := by decide +kernel
theorem dX0_dropFirst_37 : decode cX0_dropFirst 37 = .ok (.iload_n 2, 1) := by decide +kernel
theorem dX0_dropFirst_38 : decode cX0_dropFirst 38 = .ok (.isub, 1) := by decide +kernel
theorem dX0_dropFirst_39 : decode cX0_dropFirst 39 = .ok (.putfield 15, 3) := by decide +kernel
theorem dX0_dropFirst_42 : decode cX0_dropFirst 42 = .ok (.return_, 1) := by decide +kernel
theorem dX1_init_0 : decode cX1_init 0 = .ok (.aload_n 0, 1) := by decide +kernel
theorem dX1_init_1 : decode cX1_init 1 = .ok (.invokespecial 3, 3) := by decide +kernel
theorem dX1_init_4 : decode cX1_init 4 = .ok (.aload_n 0, 1) := by decide +kernel
theorem dX1_init_5 : decode cX1_init 5 = .ok (.bipush 6, 2) := by decide +kernel
theorem dX1_init_7 : decode cX1_init 7 = .ok (.newarray .int, 2) := by decide +kernel
theorem dX1_init_9 : decode cX1_init 9 = .ok (.putfield 9, 3) := by decide +kernel
theorem dX1_init_12 : decode cX1_init 12 = .ok (.aload_n 0, 1) := by decide +kernel
theorem dX1_init_13 : decode cX1_init 13 = .ok (.bipush 6, 2) := by decide +kernel
theorem dX1_init_15 : decode cX1_init 15 = .ok (.newarray .int, 2) := by decide +kernel
theorem dX1_init_17 : decode cX1_init 17 = .ok (.putfield 15, 3) := by decide +kernel
theorem dX1_init_20 : decode cX1_init 20 = .ok (.return_, 1) := by decide +kernel
theorem dX1_size_0 : decode cX1_size 0 = .ok (.aload_n 0, 1) := by decide +kernel
theorem dX1_size_1 : decode cX1_size 1 = .ok (.getfield 18, 3) := by decide +kernel
theorem dX1_size_4 : decode cX1_size 4 = .ok (.ireturn, 1) := by decide +kernel
theorem dX1_answered_0 : decode cX1_answered 0 = .ok (.aload_n 0, 1) := by decide +kernel
theorem dX1_answered_1 : decode cX1_answered 1 = .ok (.getfield 22, 3) := by decide +kernel
theorem dX1_answered_4 : decode cX1_answered 4 = .ok (.ireturn, 1) := by decide +kernel
theorem dX1_pointAt_0 : decode cX1_pointAt 0 = .ok (.iload_n 1, 1) := by decide +kernel
theorem dX1_pointAt_1 : decode cX1_pointAt 1 = .ok (.ifCond .lt 20, 3) := by decide +kernel
theorem dX1_pointAt_4 : decode cX1_pointAt 4 = .ok (.iload_n 1, 1) := by decide +kernel
theorem dX1_pointAt_5 : decode cX1_pointAt 5 = .ok (.aload_n 0, 1) := by decide +kernel
theorem dX1_pointAt_6 : decode cX1_pointAt 6 = .ok (.getfield 18, 3) := by decide +kernel
theorem dX1_pointAt_9 : decode cX1_pointAt 9 = .ok (.if_icmp .ge 12, 3) := by decide +kernel
theorem dX1_pointAt_12 : decode cX1_pointAt 12 = .ok (.aload_n 0, 1) := by decide +kernel
theorem dX1_pointAt_13 : decode cX1_pointAt 13 = .ok (.getfield 9, 3) := by decide +kernel
theorem dX1_pointAt_16 : decode cX1_pointAt 16 = .ok (.iload_n 1, 1) := by decide +kernel
theorem dX1_pointAt_17 : decode cX1_pointAt 17 = .ok (.iaload, 1) := by decide +kernel
theorem dX1_pointAt_18 : decode cX1_pointAt 18 = .ok (.goto 4, 3) := by decide +kernel
theorem dX1_pointAt_21 : decode cX1_pointAt 21 = .ok (.iconst 0, 1) := by decide +kernel
theorem dX1_pointAt_22 : decode cX1_pointAt 22 = .ok (.ireturn, 1) := by decide +kernel
theorem dX1_valueAt_0 : decode cX1_valueAt 0 = .ok (.iload_n 1, 1) := by decide +kernel
theorem dX1_valueAt_1 : decode cX1_valueAt 1 = .ok (.ifCond .lt 20, 3) := by decide +kernel
theorem dX1_valueAt_4 : decode cX1_valueAt 4 = .ok (.iload_n 1, 1) := by decide +kernel
theorem dX1_valueAt_5 : decode cX1_valueAt 5 = .ok (.aload_n 0, 1) := by decide +kernel
theorem dX1_valueAt_6 : decode cX1_valueAt 6 = .ok (.getfield 18, 3) := by decide +kernel
theorem dX1_valueAt_9 : decode cX1_valueAt 9 = .ok (.if_icmp .ge 12, 3) := by decide +kernel
theorem dX1_valueAt_12 : decode cX1_valueAt 12 = .ok (.aload_n 0, 1) := by decide +kernel
theorem dX1_valueAt_13 : decode cX1_valueAt 13 = .ok (.getfield 15, 3) := by decide +kernel
theorem dX1_valueAt_16 : decode cX1_valueAt 16 = .ok (.iload_n 1, 1) := by decide +kernel
theorem dX1_valueAt_17 : decode cX1_valueAt 17 = .ok (.iaload, 1) := by decide +kernel
theorem dX1_valueAt_18 : decode cX1_valueAt 18 = .ok (.goto 4, 3) := by decide +kernel
theorem dX1_valueAt_21 : decode cX1_valueAt 21 = .ok (.iconst 0, 1) := by decide +kernel
theorem dX1_valueAt_22 : decode cX1_valueAt 22 = .ok (.ireturn, 1) := by decide +kernel
theorem dX1_isFull_0 : decode cX1_isFull 0 = .ok (.aload_n 0, 1) := by decide +kernel
theorem dX1_isFull_1 : decode cX1_isFull 1 = .ok (.getfield 18, 3) := by decide +kernel
theorem dX1_isFull_4 : decode cX1_isFull 4 = .ok (.bipush 6, 2) := by decide +kernel
theorem dX1_isFull_6 : decode cX1_isFull 6 = .ok (.if_icmp .ne 7, 3) := by decide +kernel
theorem dX1_isFull_9 : decode cX1_isFull 9 = .ok (.iconst 1, 1) := by decide +kernel
theorem dX1_isFull_10 : decode cX1_isFull 10 = .ok (.goto 4, 3) := by decide +kernel
theorem dX1_isFull_13 : decode cX1_isFull 13 = .ok (.iconst 0, 1) := by decide +kernel
theorem dX1_isFull_14 : decode cX1_isFull 14 = .ok (.ireturn, 1) := by decide +kernel
theorem dX1_append_0 : decode cX1_append 0 = .ok (.aload_n 0, 1) := by decide +kernel
theorem dX1_append_1 : decode cX1_append 1 = .ok (.invokevirtual 25, 3) := by decide +kernel
theorem dX1_append_4 : decode cX1_append 4 = .ok (.ifCond .eq 8, 3) := by decide +kernel
theorem dX1_append_7 : decode cX1_append 7 = .ok (.aload_n 0, 1) := by decide +kernel
theorem dX1_append_8 : decode cX1_append 8 = .ok (.iconst 1, 1) := by decide +kernel
theorem dX1_append_9 : decode cX1_append 9 = .ok (.invokevirtual 29, 3) := by decide +kernel
theorem dX1_append_12 : decode cX1_append 12 = .ok (.aload_n 0, 1) := by decide +kernel
theorem dX1_append_13 : decode cX1_append 13 = .ok (.getfield 18, 3) := by decide +kernel
theorem dX1_append_16 : decode cX1_append 16 = .ok (.bipush 6, 2) := by decide +kernel
theorem dX1_append_18 : decode cX1_append 18 = .ok (.if_icmp .ge 33, 3) := by decide +kernel
theorem dX1_append_21 : decode cX1_append 21 = .ok (.aload_n 0, 1) := by decide +kernel
theorem dX1_append_22 : decode cX1_append 22 = .ok (.getfield 9, 3) := by decide +kernel
theorem dX1_append_25 : decode cX1_append 25 = .ok (.aload_n 0, 1) := by decide +kernel
theorem dX1_append_26 : decode cX1_append 26 = .ok (.getfield 18, 3) := by decide +kernel
theorem dX1_append_29 : decode cX1_append 29 = .ok (.iload_n 1, 1) := by decide +kernel
theorem dX1_append_30 : decode cX1_append 30 = .ok (.iastore, 1) := by decide +kernel
theorem dX1_append_31 : decode cX1_append 31 = .ok (.aload_n 0, 1) := by decide +kernel
theorem dX1_append_32 : decode cX1_append 32 = .ok (.getfield 15, 3) := by decide +kernel
theorem dX1_append_35 : decode cX1_append 35 = .ok (.aload_n 0, 1) := by decide +kernel
theorem dX1_append_36 : decode cX1_append 36 = .ok (.getfield 18, 3) := by decide +kernel
theorem dX1_append_39 : decode cX1_append 39 = .ok (.iload_n 2, 1) := by decide +kernel
theorem dX1_append_40 : decode cX1_append 40 = .ok (.iastore, 1) := by decide +kernel
theorem dX1_append_41 : decode cX1_append 41 = .ok (.aload_n 0, 1) := by decide +kernel
theorem dX1_append_42 : decode cX1_append 42 = .ok (.dup, 1) := by decide +kernel
theorem dX1_append_43 : decode cX1_append 43 = .ok (.getfield 18, 3) := by decide +kernel
theorem dX1_append_46 : decode cX1_append 46 = .ok (.iconst 1, 1) := by decide +kernel
theorem dX1_append_47 : decode cX1_append 47 = .ok (.iadd, 1) := by decide +kernel
theorem dX1_append_48 : decode cX1_append 48 = .ok (.putfield 18, 3) := by decide +kernel
theorem dX1_append_51 : decode cX1_append 51 = .ok (.return_, 1) := by decide +kernel
theorem dX1_markAnswered_0 : decode cX1_markAnswered 0 = .ok (.aload_n 0, 1) := by decide +kernel
theorem dX1_markAnswered_1 : decode cX1_markAnswered 1 = .ok (.aload_n 0, 1) := by decide +kernel
theorem dX1_markAnswered_2 : decode cX1_markAnswered 2 = .ok (.getfield 22, 3) := by decide +kernel
theorem dX1_markAnswered_5 : decode cX1_markAnswered 5 = .ok (.iload_n 1, 1) := by decide +kernel
theorem dX1_markAnswered_6 : decode cX1_markAnswered 6 = .ok (.iadd, 1) := by decide +kernel
theorem dX1_markAnswered_7 : decode cX1_markAnswered 7 = .ok (.aload_n 0, 1) := by decide +kernel
theorem dX1_markAnswered_8 : decode cX1_markAnswered 8 = .ok (.getfield 18, 3) := by decide +kernel
theorem dX1_markAnswered_11 : decode cX1_markAnswered 11 = .ok (.invokestatic 33, 3) := by decide +kernel
theorem dX1_markAnswered_14 : decode cX1_markAnswered 14 = .ok (.putfield 22, 3) := by decide +kernel
theorem dX1_markAnswered_17 : decode cX1_markAnswered 17 = .ok (.return_, 1) := by decide +kernel
theorem dX1_forgetAnswered_0 : decode cX1_forgetAnswered 0 = .ok (.aload_n 0, 1) := by decide +kernel
theorem dX1_forgetAnswered_1 : decode cX1_forgetAnswered 1 = .ok (.iconst 0, 1) := by decide +kernel
theorem dX1_forgetAnswered_2 : decode cX1_forgetAnswered 2 = .ok (.putfield 22, 3) := by decide +kernel
theorem dX1_forgetAnswered_5 : decode cX1_forgetAnswered 5 = .ok (.return_, 1) := by decide +kernel
theorem dX1_dropAnswered_0 : decode cX1_dropAnswered 0 = .ok (.aload_n 0, 1) := by decide +kernel
theorem dX1_dropAnswered_1 : decode cX1_dropAnswered 1 = .ok (.aload_n 0, 1) := by decide +kernel
theorem dX1_dropAnswered_2 : decode cX1_dropAnswered 2 = .ok (.getfield 22, 3) := by decide +kernel
theorem dX1_dropAnswered_5 : decode cX1_dropAnswered 5 = .ok (.invokevirtual 29, 3) := by decide +kernel
theorem dX1_dropAnswered_8 : decode cX1_dropAnswered 8 = .ok (.return_, 1) := by decide +kernel
theorem dX1_dropFirst_0 : decode cX1_dropFirst 0 = .ok (.iload_n 1, 1) := by decide +kernel
theorem dX1_dropFirst_1 : decode cX1_dropFirst 1 = .ok (.iconst 0, 1) := by decide +kernel
theorem dX1_dropFirst_2 : decode cX1_dropFirst 2 = .ok (.invokestatic 39, 3) := by decide +kernel
theorem dX1_dropFirst_5 : decode cX1_dropFirst 5 = .ok (.aload_n 0, 1) := by decide +kernel
theorem dX1_dropFirst_6 : decode cX1_dropFirst 6 = .ok (.getfield 18, 3) := by decide +kernel
theorem dX1_dropFirst_9 : decode cX1_dropFirst 9 = .ok (.invokestatic 33, 3) := by decide +kernel
theorem dX1_dropFirst_12 : decode cX1_dropFirst 12 = .ok (.istore_n 2, 1) := by decide +kernel
theorem dX1_dropFirst_13 : decode cX1_dropFirst 13 = .ok (.aload_n 0, 1) := by decide +kernel
theorem dX1_dropFirst_14 : decode cX1_dropFirst 14 = .ok (.getfield 9, 3) := by decide +kernel
theorem dX1_dropFirst_17 : decode cX1_dropFirst 17 = .ok (.iload_n 2, 1) := by decide +kernel
theorem dX1_dropFirst_18 : decode cX1_dropFirst 18 = .ok (.aload_n 0, 1) := by decide +kernel
theorem dX1_dropFirst_19 : decode cX1_dropFirst 19 = .ok (.getfield 9, 3) := by decide +kernel
theorem dX1_dropFirst_22 : decode cX1_dropFirst 22 = .ok (.iconst 0, 1) := by decide +kernel
theorem dX1_dropFirst_23 : decode cX1_dropFirst 23 = .ok (.aload_n 0, 1) := by decide +kernel
theorem dX1_dropFirst_24 : decode cX1_dropFirst 24 = .ok (.getfield 18, 3) := by decide +kernel
theorem dX1_dropFirst_27 : decode cX1_dropFirst 27 = .ok (.iload_n 2, 1) := by decide +kernel
theorem dX1_dropFirst_28 : decode cX1_dropFirst 28 = .ok (.isub, 1) := by decide +kernel
theorem dX1_dropFirst_29 : decode cX1_dropFirst 29 = .ok (.invokestatic 42, 3) := by decide +kernel
theorem dX1_dropFirst_32 : decode cX1_dropFirst 32 = .ok (.aload_n 0, 1) := by decide +kernel
theorem dX1_dropFirst_33 : decode cX1_dropFirst 33 = .ok (.getfield 15, 3) := by decide +kernel
theorem dX1_dropFirst_36 : decode cX1_dropFirst 36 = .ok (.iload_n 2, 1) := by decide +kernel
theorem dX1_dropFirst_37 : decode cX1_dropFirst 37 = .ok (.aload_n 0, 1) := by decide +kernel
theorem dX1_dropFirst_38 : decode cX1_dropFirst 38 = .ok (.getfield 15, 3) := by decide +kernel
theorem dX1_dropFirst_41 : decode cX1_dropFirst 41 = .ok (.iconst 0, 1) := by decide +kernel
theorem dX1_dropFirst_42 : decode cX1_dropFirst 42 = .ok (.aload_n 0, 1) := by decide +kernel
theorem dX1_dropFirst_43 : decode cX1_dropFirst 43 = .ok (.getfield 18, 3) := by decide +kernel
theorem dX1_dropFirst_46 : decode cX1_dropFirst 46 = .ok (.iload_n 2, 1) := by decide +kernel
theorem dX1_dropFirst_47 : decode cX1_dropFirst 47 = .ok (.isub, 1) := by decide +kernel
theorem dX1_dropFirst_48 : decode cX1_dropFirst 48 = .ok (.invokestatic 42, 3) := by decide +kernel
theorem dX1_dropFirst_51 : decode cX1_dropFirst 51 = .ok (.aload_n 0, 1) := by decide +kernel
theorem dX1_dropFirst_52 : decode cX1_dropFirst 52 = .ok (.dup, 1) := by decide +kernel
theorem dX1_dropFirst_53 : decode cX1_dropFirst 53 = .ok (.getfield 18, 3) := by decide +kernel
theorem dX1_dropFirst_56 : decode cX1_dropFirst 56 = .ok (.iload_n 2, 1) := by decide +kernel
theorem dX1_dropFirst_57 : decode cX1_dropFirst 57 = .ok (.isub, 1) := by decide +kernel
theorem dX1_dropFirst_58 : decode cX1_dropFirst 58 = .ok (.putfield 18, 3) := by decide +kernel
theorem dX1_dropFirst_61 : decode cX1_dropFirst 61 = .ok (.aload_n 0, 1) := by decide +kernel
theorem dX1_dropFirst_62 : decode cX1_dropFirst 62 = .ok (.aload_n 0, 1) := by decide +kernel
theorem dX1_dropFirst_63 : decode cX1_dropFirst 63 = .ok (.getfield 22, 3) := by decide +kernel
theorem dX1_dropFirst_66 : decode cX1_dropFirst 66 = .ok (.iload_n 2, 1) := by decide +kernel
theorem dX1_dropFirst_67 : decode cX1_dropFirst 67 = .ok (.isub, 1) := by decide +kernel
theorem dX1_dropFirst_68 : decode cX1_dropFirst 68 = .ok (.iconst 0, 1) := by decide +kernel
theorem dX1_dropFirst_69 : decode cX1_dropFirst 69 = .ok (.invokestatic 39, 3) := by decide +kernel
theorem dX1_dropFirst_72 : decode cX1_dropFirst 72 = .ok (.putfield 22, 3) := by decide +kernel
theorem dX1_dropFirst_75 : decode cX1_dropFirst 75 = .ok (.return_, 1) := by decide +kernel
theorem dX2_init_0 : decode cX2_init 0 = .ok (.aload_n 0, 1) := by decide +kernel
theorem dX2_init_1 : decode cX2_init 1 = .ok (.invokespecial 3, 3) := by decide +kernel
theorem dX2_init_4 : decode cX2_init 4 = .ok (.aload_n 0, 1) := by decide +kernel
theorem dX2_init_5 : decode cX2_init 5 = .ok (.bipush 8, 2) := by decide +kernel
theorem dX2_init_7 : decode cX2_init 7 = .ok (.newarray .int, 2) := by decide +kernel
theorem dX2_init_9 : decode cX2_init 9 = .ok (.putfield 9, 3) := by decide +kernel
theorem dX2_init_12 : decode cX2_init 12 = .ok (.aload_n 0, 1) := by decide +kernel
theorem dX2_init_13 : decode cX2_init 13 = .ok (.bipush 8, 2) := by decide +kernel
theorem dX2_init_15 : decode cX2_init 15 = .ok (.newarray .int, 2) := by decide +kernel
theorem dX2_init_17 : decode cX2_init 17 = .ok (.putfield 15, 3) := by decide +kernel
theorem dX2_init_20 : decode cX2_init 20 = .ok (.aload_n 0, 1) := by decide +kernel
theorem dX2_init_21 : decode cX2_init 21 = .ok (.iconst 4, 1) := by decide +kernel
theorem dX2_init_22 : decode cX2_init 22 = .ok (.newarray .int, 2) := by decide +kernel
theorem dX2_init_24 : decode cX2_init 24 = .ok (.putfield 18, 3) := by decide +kernel
theorem dX2_init_27 : decode cX2_init 27 = .ok (.aload_n 0, 1) := by decide +kernel
theorem dX2_init_28 : decode cX2_init 28 = .ok (.new 21, 3) := by decide +kernel
theorem dX2_init_31 : decode cX2_init 31 = .ok (.dup, 1) := by decide +kernel
theorem dX2_init_32 : decode cX2_init 32 = .ok (.invokespecial 23, 3) := by decide +kernel
theorem dX2_init_35 : decode cX2_init 35 = .ok (.putfield 24, 3) := by decide +kernel
theorem dX2_init_38 : decode cX2_init 38 = .ok (.aload_n 0, 1) := by decide +kernel
theorem dX2_init_39 : decode cX2_init 39 = .ok (.new 21, 3) := by decide +kernel
theorem dX2_init_42 : decode cX2_init 42 = .ok (.dup, 1) := by decide +kernel
theorem dX2_init_43 : decode cX2_init 43 = .ok (.invokespecial 23, 3) := by decide +kernel
theorem dX2_init_46 : decode cX2_init 46 = .ok (.putfield 28, 3) := by decide +kernel
theorem dX2_init_49 : decode cX2_init 49 = .ok (.aload_n 0, 1) := by decide +kernel
theorem dX2_init_50 : decode cX2_init 50 = .ok (.iconst 0, 1) := by decide +kernel
theorem dX2_init_51 : decode cX2_init 51 = .ok (.putfield 31, 3) := by decide +kernel
theorem dX2_init_54 : decode cX2_init 54 = .ok (.aload_n 0, 1) := by decide +kernel
theorem dX2_init_55 : decode cX2_init 55 = .ok (.iconst 1, 1) := by decide +kernel
theorem dX2_init_56 : decode cX2_init 56 = .ok (.putfield 35, 3) := by decide +kernel
theorem dX2_init_59 : decode cX2_init 59 = .ok (.return_, 1) := by decide +kernel
theorem dX2_has_0 : decode cX2_has 0 = .ok (.iload_n 1, 1) := by decide +kernel
theorem dX2_has_1 : decode cX2_has 1 = .ok (.ifCond .lt 31, 3) := by decide +kernel
theorem dX2_has_4 : decode cX2_has 4 = .ok (.iload_n 1, 1) := by decide +kernel
theorem dX2_has_5 : decode cX2_has 5 = .ok (.iconst 2, 1) := by decide +kernel
theorem dX2_has_6 : decode cX2_has 6 = .ok (.if_icmp .gt 26, 3) := by decide +kernel
theorem dX2_has_9 : decode cX2_has 9 = .ok (.iload_n 2, 1) := by decide +kernel
theorem dX2_has_10 : decode cX2_has 10 = .ok (.ifCond .lt 22, 3) := by decide +kernel
theorem dX2_has_13 : decode cX2_has 13 = .ok (.iload_n 2, 1) := by decide +kernel
theorem dX2_has_14 : decode cX2_has 14 = .ok (.iload_n 1, 1) := by decide +kernel
theorem dX2_has_15 : decode cX2_has 15 = .ok (.iconst 2, 1) := by decide +kernel
theorem dX2_has_16 : decode cX2_has 16 = .ok (.if_icmp .ne 7, 3) := by decide +kernel
theorem dX2_has_19 : decode cX2_has 19 = .ok (.iconst 4, 1) := by decide +kernel
theorem dX2_has_20 : decode cX2_has 20 = .ok (.goto 5, 3) := by decide +kernel
theorem dX2_has_23 : decode cX2_has 23 = .ok (.bipush 8, 2) := by decide +kernel
theorem dX2_has_25 : decode cX2_has 25 = .ok (.if_icmp .ge 7, 3) := by decide +kernel
theorem dX2_has_28 : decode cX2_has 28 = .ok (.iconst 1, 1) := by decide +kernel
theorem dX2_has_29 : decode cX2_has 29 = .ok (.goto 4, 3) := by decide +kernel
theorem dX2_has_32 : decode cX2_has 32 = .ok (.iconst 0, 1) := by decide +kernel
theorem dX2_has_33 : decode cX2_has 33 = .ok (.ireturn, 1) := by decide +kernel
theorem dX2_valueOf_0 : decode cX2_valueOf 0 = .ok (.aload_n 0, 1) := by decide +kernel
theorem dX2_valueOf_1 : decode cX2_valueOf 1 = .ok (.iload_n 1, 1) := by decide +kernel
theorem dX2_valueOf_2 : decode cX2_valueOf 2 = .ok (.iload_n 2, 1) := by decide +kernel
theorem dX2_valueOf_3 : decode cX2_valueOf 3 = .ok (.invokevirtual 38, 3) := by decide +kernel
theorem dX2_valueOf_6 : decode cX2_valueOf 6 = .ok (.ifCond .eq 13, 3) := by decide +kernel
theorem dX2_valueOf_9 : decode cX2_valueOf 9 = .ok (.aload_n 0, 1) := by decide +kernel
theorem dX2_valueOf_10 : decode cX2_valueOf 10 = .ok (.iload_n 1, 1) := by decide +kernel
theorem dX2_valueOf_11 : decode cX2_valueOf 11 = .ok (.invokevirtual 42, 3) := by decide +kernel
theorem dX2_valueOf_14 : decode cX2_valueOf 14 = .ok (.iload_n 2, 1) := by decide +kernel
theorem dX2_valueOf_15 : decode cX2_valueOf 15 = .ok (.iaload, 1) := by decide +kernel
theorem dX2_valueOf_16 : decode cX2_valueOf 16 = .ok (.goto 4, 3) := by decide +kernel
theorem dX2_valueOf_19 : decode cX2_valueOf 19 = .ok (.iconst 0, 1) := by decide +kernel
theorem dX2_valueOf_20 : decode cX2_valueOf 20 = .ok (.ireturn, 1) := by decide +kernel
theorem dX2_bring_0 : decode cX2_bring 0 = .ok (.aload_n 0, 1) := by decide +kernel
theorem dX2_bring_1 : decode cX2_bring 1 = .ok (.iload_n 1, 1) := by decide +kernel
theorem dX2_bring_2 : decode cX2_bring 2 = .ok (.iload_n 2, 1) := by decide +kernel
theorem dX2_bring_3 : decode cX2_bring 3 = .ok (.invokevirtual 38, 3) := by decide +kernel
theorem dX2_bring_6 : decode cX2_bring 6 = .ok (.ifCond .eq 14, 3) := by decide +kernel
theorem dX2_bring_9 : decode cX2_bring 9 = .ok (.aload_n 0, 1) := by decide +kernel
theorem dX2_bring_10 : decode cX2_bring 10 = .ok (.iload_n 1, 1) := by decide +kernel
theorem dX2_bring_11 : decode cX2_bring 11 = .ok (.invokevirtual 42, 3) := by decide +kernel
theorem dX2_bring_14 : decode cX2_bring 14 = .ok (.iload_n 2, 1) := by decide +kernel
theorem dX2_bring_15 : decode cX2_bring 15 = .ok (.iaload, 1) := by decide +kernel
theorem dX2_bring_16 : decode cX2_bring 16 = .ok (.iload_n 3, 1) := by decide +kernel
theorem dX2_bring_17 : decode cX2_bring 17 = .ok (.if_icmp .ne 4, 3) := by decide +kernel
theorem dX2_bring_20 : decode cX2_bring 20 = .ok (.return_, 1) := by decide +kernel
theorem dX2_bring_21 : decode cX2_bring 21 = .ok (.aload_n 0, 1) := by decide +kernel
theorem dX2_bring_22 : decode cX2_bring 22 = .ok (.iload_n 1, 1) := by decide +kernel
theorem dX2_bring_23 : decode cX2_bring 23 = .ok (.invokevirtual 42, 3) := by decide +kernel
theorem dX2_bring_26 : decode cX2_bring 26 = .ok (.iload_n 2, 1) := by decide +kernel
theorem dX2_bring_27 : decode cX2_bring 27 = .ok (.iload_n 3, 1) := by decide +kernel
theorem dX2_bring_28 : decode cX2_bring 28 = .ok (.iastore, 1) := by decide +kernel
theorem dX2_bring_29 : decode cX2_bring 29 = .ok (.aload_n 0, 1) := by decide +kernel
theorem dX2_bring_30 : decode cX2_bring 30 = .ok (.iload_n 1, 1) := by decide +kernel
theorem dX2_bring_31 : decode cX2_bring 31 = .ok (.invokevirtual 46, 3) := by decide +kernel
theorem dX2_bring_34 : decode cX2_bring 34 = .ok (.astore 4, 2) := by decide +kernel
theorem dX2_bring_36 : decode cX2_bring 36 = .ok (.aload 4, 2) := by decide +kernel
theorem dX2_bring_38 : decode cX2_bring 38 = .ok (.invokevirtual 50, 3) := by decide +kernel
theorem dX2_bring_41 : decode cX2_bring 41 = .ok (.ifCond .eq 8, 3) := by decide +kernel
theorem dX2_bring_44 : decode cX2_bring 44 = .ok (.aload_n 0, 1) := by decide +kernel
theorem dX2_bring_45 : decode cX2_bring 45 = .ok (.iconst 1, 1) := by decide +kernel
theorem dX2_bring_46 : decode cX2_bring 46 = .ok (.putfield 31, 3) := by decide +kernel
theorem dX2_bring_49 : decode cX2_bring 49 = .ok (.aload 4, 2) := by decide +kernel
theorem dX2_bring_51 : decode cX2_bring 51 = .ok (.iload_n 2, 1) := by decide +kernel
theorem dX2_bring_52 : decode cX2_bring 52 = .ok (.iload_n 3, 1) := by decide +kernel
theorem dX2_bring_53 : decode cX2_bring 53 = .ok (.invokevirtual 54, 3) := by decide +kernel
theorem dX2_bring_56 : decode cX2_bring 56 = .ok (.return_, 1) := by decide +kernel
theorem dX2_setOutput_0 : decode cX2_setOutput 0 = .ok (.aload_n 0, 1) := by decide +kernel
theorem dX2_setOutput_1 : decode cX2_setOutput 1 = .ok (.iconst 2, 1) := by decide +kernel
theorem dX2_setOutput_2 : decode cX2_setOutput 2 = .ok (.iload_n 1, 1) := by decide +kernel
theorem dX2_setOutput_3 : decode cX2_setOutput 3 = .ok (.invokevirtual 38, 3) := by decide +kernel
theorem dX2_setOutput_6 : decode cX2_setOutput 6 = .ok (.ifCond .eq 10, 3) := by decide +kernel
theorem dX2_setOutput_9 : decode cX2_setOutput 9 = .ok (.aload_n 0, 1) := by decide +kernel
theorem dX2_setOutput_10 : decode cX2_setOutput 10 = .ok (.getfield 18, 3) := by decide +kernel
theorem dX2_setOutput_13 : decode cX2_setOutput 13 = .ok (.iload_n 1, 1) := by decide +kernel
theorem dX2_setOutput_14 : decode cX2_setOutput 14 = .ok (.iload_n 2, 1) := by decide +kernel
theorem dX2_setOutput_15 : decode cX2_setOutput 15 = .ok (.iastore, 1) := by decide +kernel
theorem dX2_setOutput_16 : decode cX2_setOutput 16 = .ok (.return_, 1) := by decide +kernel
theorem dX2_eventsOf_0 : decode cX2_eventsOf 0 = .ok (.iload_n 1, 1) := by decide +kernel
theorem dX2_eventsOf_1 : decode cX2_eventsOf 1 = .ok (.ifCond .ne 10, 3) := by decide +kernel
theorem dX2_eventsOf_4 : decode cX2_eventsOf 4 = .ok (.aload_n 0, 1) := by decide +kernel
theorem dX2_eventsOf_5 : decode cX2_eventsOf 5 = .ok (.getfield 24, 3) := by decide +kernel
theorem dX2_eventsOf_8 : decode cX2_eventsOf 8 = .ok (.goto 7, 3) := by decide +kernel
theorem dX2_eventsOf_11 : decode cX2_eventsOf 11 = .ok (.aload_n 0, 1) := by decide +kernel
theorem dX2_eventsOf_12 : decode cX2_eventsOf 12 = .ok (.getfield 28, 3) := by decide +kernel
theorem dX2_eventsOf_15 : decode cX2_eventsOf 15 = .ok (.areturn, 1) := by decide +kernel
theorem dX2_forgetAnswered_0 : decode cX2_forgetAnswered 0 = .ok (.aload_n 0, 1) := by decide +kernel
theorem dX2_forgetAnswered_1 : decode cX2_forgetAnswered 1 = .ok (.getfield 24, 3) := by decide +kernel
theorem dX2_forgetAnswered_4 : decode cX2_forgetAnswered 4 = .ok (.invokevirtual 58, 3) := by decide +kernel
theorem dX2_forgetAnswered_7 : decode cX2_forgetAnswered 7 = .ok (.aload_n 0, 1) := by decide +kernel
theorem dX2_forgetAnswered_8 : decode cX2_forgetAnswered 8 = .ok (.getfield 28, 3) := by decide +kernel
theorem dX2_forgetAnswered_11 : decode cX2_forgetAnswered 11 = .ok (.invokevirtual 58, 3) := by decide +kernel
theorem dX2_forgetAnswered_14 : decode cX2_forgetAnswered 14 = .ok (.return_, 1) := by decide +kernel
theorem dX2_anyAnswered_0 : decode cX2_anyAnswered 0 = .ok (.aload_n 0, 1) := by decide +kernel
theorem dX2_anyAnswered_1 : decode cX2_anyAnswered 1 = .ok (.getfield 24, 3) := by decide +kernel
theorem dX2_anyAnswered_4 : decode cX2_anyAnswered 4 = .ok (.invokevirtual 61, 3) := by decide +kernel
theorem dX2_anyAnswered_7 : decode cX2_anyAnswered 7 = .ok (.ifCond .gt 13, 3) := by decide +kernel
theorem dX2_anyAnswered_10 : decode cX2_anyAnswered 10 = .ok (.aload_n 0, 1) := by decide +kernel
theorem dX2_anyAnswered_11 : decode cX2_anyAnswered 11 = .ok (.getfield 28, 3) := by decide +kernel
theorem dX2_anyAnswered_14 : decode cX2_anyAnswered 14 = .ok (.invokevirtual 61, 3) := by decide +kernel
theorem dX2_anyAnswered_17 : decode cX2_anyAnswered 17 = .ok (.ifCond .le 7, 3) := by decide +kernel
theorem dX2_anyAnswered_20 : decode cX2_anyAnswered 20 = .ok (.iconst 1, 1) := by decide +kernel
theorem dX2_anyAnswered_21 : decode cX2_anyAnswered 21 = .ok (.goto 4, 3) := by decide +kernel
theorem dX2_anyAnswered_24 : decode cX2_anyAnswered 24 = .ok (.iconst 0, 1) := by decide +kernel
theorem dX2_anyAnswered_25 : decode cX2_anyAnswered 25 = .ok (.ireturn, 1) := by decide +kernel
theorem dX2_confirmAnswered_0 : decode cX2_confirmAnswered 0 = .ok (.aload_n 0, 1) := by decide +kernel
theorem dX2_confirmAnswered_1 : decode cX2_confirmAnswered 1 = .ok (.getfield 24, 3) := by decide +kernel
theorem dX2_confirmAnswered_4 : decode cX2_confirmAnswered 4 = .ok (.invokevirtual 65, 3) := by decide +kernel
theorem dX2_confirmAnswered_7 : decode cX2_confirmAnswered 7 = .ok (.aload_n 0, 1) := by decide +kernel
theorem dX2_confirmAnswered_8 : decode cX2_confirmAnswered 8 = .ok (.getfield 28, 3) := by decide +kernel
theorem dX2_confirmAnswered_11 : decode cX2_confirmAnswered 11 = .ok (.invokevirtual 65, 3) := by decide +kernel
theorem dX2_confirmAnswered_14 : decode cX2_confirmAnswered 14 = .ok (.aload_n 0, 1) := by decide +kernel
theorem dX2_confirmAnswered_15 : decode cX2_confirmAnswered 15 = .ok (.iconst 0, 1) := by decide +kernel
theorem dX2_confirmAnswered_16 : decode cX2_confirmAnswered 16 = .ok (.putfield 31, 3) := by decide +kernel
theorem dX2_confirmAnswered_19 : decode cX2_confirmAnswered 19 = .ok (.return_, 1) := by decide +kernel
theorem dX2_endRestart_0 : decode cX2_endRestart 0 = .ok (.aload_n 0, 1) := by decide +kernel
theorem dX2_endRestart_1 : decode cX2_endRestart 1 = .ok (.iconst 0, 1) := by decide +kernel
theorem dX2_endRestart_2 : decode cX2_endRestart 2 = .ok (.putfield 35, 3) := by decide +kernel
theorem dX2_endRestart_5 : decode cX2_endRestart 5 = .ok (.return_, 1) := by decide +kernel
theorem dX2_firstSigns_0 : decode cX2_firstSigns 0 = .ok (.aload_n 0, 1) := by decide +kernel
theorem dX2_firstSigns_1 : decode cX2_firstSigns 1 = .ok (.getfield 24, 3) := by decide +kernel
theorem dX2_firstSigns_4 : decode cX2_firstSigns 4 = .ok (.invokevirtual 68, 3) := by decide +kernel
theorem dX2_firstSigns_7 : decode cX2_firstSigns 7 = .ok (.ifCond .le 7, 3) := by decide +kernel
theorem dX2_firstSigns_10 : decode cX2_firstSigns 10 = .ok (.iconst 2, 1) := by decide +kernel
theorem dX2_firstSigns_11 : decode cX2_firstSigns 11 = .ok (.goto 4, 3) := by decide +kernel
theorem dX2_firstSigns_14 : decode cX2_firstSigns 14 = .ok (.iconst 0, 1) := by decide +kernel
theorem dX2_firstSigns_15 : decode cX2_firstSigns 15 = .ok (.aload_n 0, 1) := by decide +kernel
theorem dX2_firstSigns_16 : decode cX2_firstSigns 16 = .ok (.getfield 28, 3) := by decide +kernel
theorem dX2_firstSigns_19 : decode cX2_firstSigns 19 = .ok (.invokevirtual 68, 3) := by decide +kernel
theorem dX2_firstSigns_22 : decode cX2_firstSigns 22 = .ok (.ifCond .le 7, 3) := by decide +kernel
theorem dX2_firstSigns_25 : decode cX2_firstSigns 25 = .ok (.iconst 4, 1) := by decide +kernel
theorem dX2_firstSigns_26 : decode cX2_firstSigns 26 = .ok (.goto 4, 3) := by decide +kernel
theorem dX2_firstSigns_29 : decode cX2_firstSigns 29 = .ok (.iconst 0, 1) := by decide +kernel
theorem dX2_firstSigns_30 : decode cX2_firstSigns 30 = .ok (.iadd, 1) := by decide +kernel
theorem dX2_firstSigns_31 : decode cX2_firstSigns 31 = .ok (.aload_n 0, 1) := by decide +kernel
theorem dX2_firstSigns_32 : decode cX2_firstSigns 32 = .ok (.getfield 35, 3) := by decide +kernel
theorem dX2_firstSigns_35 : decode cX2_firstSigns 35 = .ok (.ifCond .eq 9, 3) := by decide +kernel
theorem dX2_firstSigns_38 : decode cX2_firstSigns 38 = .ok (.sipush 128, 3) := by decide +kernel
theorem dX2_firstSigns_41 : decode cX2_firstSigns 41 = .ok (.goto 4, 3) := by decide +kernel
theorem dX2_firstSigns_44 : decode cX2_firstSigns 44 = .ok (.iconst 0, 1) := by decide +kernel
theorem dX2_firstSigns_45 : decode cX2_firstSigns 45 = .ok (.iadd, 1) := by decide +kernel
theorem dX2_firstSigns_46 : decode cX2_firstSigns 46 = .ok (.ireturn, 1) := by decide +kernel
theorem dX2_overflowSign_0 : decode cX2_overflowSign 0 = .ok (.aload_n 0, 1) := by decide +kernel
theorem dX2_overflowSign_1 : decode cX2_overflowSign 1 = .ok (.getfield 31, 3) := by decide +kernel
theorem dX2_overflowSign_4 : decode cX2_overflowSign 4 = .ok (.ifCond .eq 8, 3) := by decide +kernel
theorem dX2_overflowSign_7 : decode cX2_overflowSign 7 = .ok (.bipush 8, 2) := by decide +kernel
theorem dX2_overflowSign_9 : decode cX2_overflowSign 9 = .ok (.goto 4, 3) := by decide +kernel
theorem dX2_overflowSign_12 : decode cX2_overflowSign 12 = .ok (.iconst 0, 1) := by decide +kernel
theorem dX2_overflowSign_13 : decode cX2_overflowSign 13 = .ok (.ireturn, 1) := by decide +kernel
theorem dX2_valuesOf_0 : decode cX2_valuesOf 0 = .ok (.iload_n 1, 1) := by decide +kernel
theorem dX2_valuesOf_1 : decode cX2_valuesOf 1 = .ok (.ifCond .ne 8, 3) := by decide +kernel
theorem dX2_valuesOf_4 : decode cX2_valuesOf 4 = .ok (.aload_n 0, 1) := by decide +kernel
theorem dX2_valuesOf_5 : decode cX2_valuesOf 5 = .ok (.getfield 9, 3) := by decide +kernel
theorem dX2_valuesOf_8 : decode cX2_valuesOf 8 = .ok (.areturn, 1) := by decide +kernel
theorem dX2_valuesOf_9 : decode cX2_valuesOf 9 = .ok (.iload_n 1, 1) := by decide +kernel
theorem dX2_valuesOf_10 : decode cX2_valuesOf 10 = .ok (.iconst 1, 1) := by decide +kernel
theorem dX2_valuesOf_11 : decode cX2_valuesOf 11 = .ok (.if_icmp .ne 10, 3) := by decide +kernel
theorem dX2_valuesOf_14 : decode cX2_valuesOf 14 = .ok (.aload_n 0, 1) := by decide +kernel
theorem dX2_valuesOf_15 : decode cX2_valuesOf 15 = .ok (.getfield 15, 3) := by decide +kernel
theorem dX2_valuesOf_18 : decode cX2_valuesOf 18 = .ok (.goto 7, 3) := by decide +kernel
theorem dX2_valuesOf_21 : decode cX2_valuesOf 21 = .ok (.aload_n 0, 1) := by decide +kernel
theorem dX2_valuesOf_22 : decode cX2_valuesOf 22 = .ok (.getfield 18, 3) := by decide +kernel
theorem dX2_valuesOf_25 : decode cX2_valuesOf 25 = .ok (.areturn, 1) := by decide +kernel
theorem dX3_init_0 : decode cX3_init 0 = .ok (.aload_n 0, 1) := by decide +kernel
theorem dX3_init_1 : decode cX3_init 1 = .ok (.invokespecial 3, 3) := by decide +kernel
theorem dX3_init_4 : decode cX3_init 4 = .ok (.aload_n 0, 1) := by decide +kernel
theorem dX3_init_5 : decode cX3_init 5 = .ok (.new 9, 3) := by decide +kernel
theorem dX3_init_8 : decode cX3_init 8 = .ok (.dup, 1) := by decide +kernel
theorem dX3_init_9 : decode cX3_init 9 = .ok (.bipush 56, 2) := by decide +kernel
theorem dX3_init_11 : decode cX3_init 11 = .ok (.invokespecial 11, 3) := by decide +kernel
theorem dX3_init_14 : decode cX3_init 14 = .ok (.putfield 14, 3) := by decide +kernel
theorem dX3_init_17 : decode cX3_init 17 = .ok (.aload_n 0, 1) := by decide +kernel
theorem dX3_init_18 : decode cX3_init 18 = .ok (.new 20, 3) := by decide +kernel
theorem dX3_init_21 : decode cX3_init 21 = .ok (.dup, 1) := by decide +kernel
theorem dX3_init_22 : decode cX3_init 22 = .ok (.invokespecial 22, 3) := by decide +kernel
theorem dX3_init_25 : decode cX3_init 25 = .ok (.putfield 23, 3) := by decide +kernel
theorem dX3_init_28 : decode cX3_init 28 = .ok (.aload_n 0, 1) := by decide +kernel
theorem dX3_init_29 : decode cX3_init 29 = .ok (.iconst 0, 1) := by decide +kernel
theorem dX3_init_30 : decode cX3_init 30 = .ok (.putfield 27, 3) := by decide +kernel
theorem dX3_init_33 : decode cX3_init 33 = .ok (.return_, 1) := by decide +kernel
theorem dX3_length_0 : decode cX3_length 0 = .ok (.aload_n 0, 1) := by decide +kernel
theorem dX3_length_1 : decode cX3_length 1 = .ok (.getfield 14, 3) := by decide +kernel
theorem dX3_length_4 : decode cX3_length 4 = .ok (.invokevirtual 31, 3) := by decide +kernel
theorem dX3_length_7 : decode cX3_length 7 = .ok (.ireturn, 1) := by decide +kernel
theorem dX3_bring_0 : decode cX3_bring 0 = .ok (.aload_n 0, 1) := by decide +kernel
theorem dX3_bring_1 : decode cX3_bring 1 = .ok (.getfield 14, 3) := by decide +kernel
theorem dX3_bring_4 : decode cX3_bring 4 = .ok (.iload_n 1, 1) := by decide +kernel
theorem dX3_bring_5 : decode cX3_bring 5 = .ok (.invokevirtual 35, 3) := by decide +kernel
theorem dX3_bring_8 : decode cX3_bring 8 = .ok (.return_, 1) := by decide +kernel
theorem dX3_findFrame_0 : decode cX3_findFrame 0 = .ok (.aload_n 0, 1) := by decide +kernel
theorem dX3_findFrame_1 : decode cX3_findFrame 1 = .ok (.getfield 14, 3) := by decide +kernel
theorem dX3_findFrame_4 : decode cX3_findFrame 4 = .ok (.invokevirtual 31, 3) := by decide +kernel
theorem dX3_findFrame_7 : decode cX3_findFrame 7 = .ok (.istore_n 1, 1) := by decide +kernel
theorem dX3_findFrame_8 : decode cX3_findFrame 8 = .ok (.iload_n 1, 1) := by decide +kernel
theorem dX3_findFrame_9 : decode cX3_findFrame 9 = .ok (.ifCond .le 42, 3) := by decide +kernel
theorem dX3_findFrame_12 : decode cX3_findFrame 12 = .ok (.aload_n 0, 1) := by decide +kernel
theorem dX3_findFrame_13 : decode cX3_findFrame 13 = .ok (.invokevirtual 38, 3) := by decide +kernel
theorem dX3_findFrame_16 : decode cX3_findFrame 16 = .ok (.istore_n 2, 1) := by decide +kernel
theorem dX3_findFrame_17 : decode cX3_findFrame 17 = .ok (.iload_n 2, 1) := by decide +kernel
theorem dX3_findFrame_18 : decode cX3_findFrame 18 = .ok (.ifCond .eq 14, 3) := by decide +kernel
theorem dX3_findFrame_21 : decode cX3_findFrame 21 = .ok (.iload_n 2, 1) := by decide +kernel
theorem dX3_findFrame_22 : decode cX3_findFrame 22 = .ok (.iconst 2, 1) := by decide +kernel
theorem dX3_findFrame_23 : decode cX3_findFrame 23 = .ok (.if_icmp .ne 7, 3) := by decide +kernel
theorem dX3_findFrame_26 : decode cX3_findFrame 26 = .ok (.iconst 1, 1) := by decide +kernel
theorem dX3_findFrame_27 : decode cX3_findFrame 27 = .ok (.goto 4, 3) := by decide +kernel
theorem dX3_findFrame_30 : decode cX3_findFrame 30 = .ok (.iconst 0, 1) := by decide +kernel
theorem dX3_findFrame_31 : decode cX3_findFrame 31 = .ok (.ireturn, 1) := by decide +kernel
theorem dX3_findFrame_32 : decode cX3_findFrame 32 = .ok (.aload_n 0, 1) := by decide +kernel
theorem dX3_findFrame_33 : decode cX3_findFrame 33 = .ok (.getfield 14, 3) := by decide +kernel
theorem dX3_findFrame_36 : decode cX3_findFrame 36 = .ok (.iconst 1, 1) := by decide +kernel
theorem dX3_findFrame_37 : decode cX3_findFrame 37 = .ok (.invokevirtual 41, 3) := by decide +kernel
theorem dX3_findFrame_40 : decode cX3_findFrame 40 = .ok (.aload_n 0, 1) := by decide +kernel
theorem dX3_findFrame_41 : decode cX3_findFrame 41 = .ok (.iconst 0, 1) := by decide +kernel
theorem dX3_findFrame_42 : decode cX3_findFrame 42 = .ok (.putfield 27, 3) := by decide +kernel
theorem dX3_findFrame_45 : decode cX3_findFrame 45 = .ok (.iinc 1 (-1), 3) := by decide +kernel
theorem dX3_findFrame_48 : decode cX3_findFrame 48 = .ok (.goto (-40), 3) := by decide +kernel
theorem dX3_findFrame_51 : decode cX3_findFrame 51 = .ok (.iconst 0, 1) := by decide +kernel
theorem dX3_findFrame_52 : decode cX3_findFrame 52 = .ok (.ireturn, 1) := by decide +kernel
theorem dX3_state_0 : decode cX3_state 0 = .ok (.aload_n 0, 1) := by decide +kernel
theorem dX3_state_1 : decode cX3_state 1 = .ok (.getfield 27, 3) := by decide +kernel
theorem dX3_state_4 : decode cX3_state 4 = .ok (.ifCond .ne 44, 3) := by decide +kernel
theorem dX3_state_7 : decode cX3_state 7 = .ok (.aload_n 0, 1) := by decide +kernel
theorem dX3_state_8 : decode cX3_state 8 = .ok (.invokevirtual 44, 3) := by decide +kernel
theorem dX3_state_11 : decode cX3_state 11 = .ok (.ifCond .eq 5, 3) := by decide +kernel
theorem dX3_state_14 : decode cX3_state 14 = .ok (.iconst 0, 1) := by decide +kernel
theorem dX3_state_15 : decode cX3_state 15 = .ok (.ireturn, 1) := by decide +kernel
theorem dX3_state_16 : decode cX3_state 16 = .ok (.aload_n 0, 1) := by decide +kernel
theorem dX3_state_17 : decode cX3_state 17 = .ok (.getfield 14, 3) := by decide +kernel
theorem dX3_state_20 : decode cX3_state 20 = .ok (.invokevirtual 31, 3) := by decide +kernel
theorem dX3_state_23 : decode cX3_state 23 = .ok (.bipush 10, 2) := by decide +kernel
theorem dX3_state_25 : decode cX3_state 25 = .ok (.if_icmp .ge 5, 3) := by decide +kernel
theorem dX3_state_28 : decode cX3_state 28 = .ok (.iconst 1, 1) := by decide +kernel
theorem dX3_state_29 : decode cX3_state 29 = .ok (.ireturn, 1) := by decide +kernel
theorem dX3_state_30 : decode cX3_state 30 = .ok (.aload_n 0, 1) := by decide +kernel
theorem dX3_state_31 : decode cX3_state 31 = .ok (.iconst 0, 1) := by decide +kernel
theorem dX3_state_32 : decode cX3_state 32 = .ok (.bipush 8, 2) := by decide +kernel
theorem dX3_state_34 : decode cX3_state 34 = .ok (.invokevirtual 48, 3) := by decide +kernel
theorem dX3_state_37 : decode cX3_state 37 = .ok (.ifCond .ne 5, 3) := by decide +kernel
theorem dX3_state_40 : decode cX3_state 40 = .ok (.iconst 0, 1) := by decide +kernel
theorem dX3_state_41 : decode cX3_state 41 = .ok (.ireturn, 1) := by decide +kernel
theorem dX3_state_42 : decode cX3_state 42 = .ok (.aload_n 0, 1) := by decide +kernel
theorem dX3_state_43 : decode cX3_state 43 = .ok (.bipush 10, 2) := by decide +kernel
theorem dX3_state_45 : decode cX3_state 45 = .ok (.putfield 27, 3) := by decide +kernel
theorem dX3_state_48 : decode cX3_state 48 = .ok (.aload_n 0, 1) := by decide +kernel
theorem dX3_state_49 : decode cX3_state 49 = .ok (.invokevirtual 52, 3) := by decide +kernel
theorem dX3_state_52 : decode cX3_state 52 = .ok (.ireturn, 1) := by decide +kernel
theorem dX3_isForThis_0 : decode cX3_isForThis 0 = .ok (.aload_n 0, 1) := by decide +kernel
theorem dX3_isForThis_1 : decode cX3_isForThis 1 = .ok (.getfield 14, 3) := by decide +kernel
theorem dX3_isForThis_4 : decode cX3_isForThis 4 = .ok (.iconst 3, 1) := by decide +kernel
theorem dX3_isForThis_5 : decode cX3_isForThis 5 = .ok (.invokevirtual 55, 3) := by decide +kernel
theorem dX3_isForThis_8 : decode cX3_isForThis 8 = .ok (.sipush 196, 3) := by decide +kernel
theorem dX3_isForThis_11 : decode cX3_isForThis 11 = .ok (.if_icmp .ne 33, 3) := by decide +kernel
theorem dX3_isForThis_14 : decode cX3_isForThis 14 = .ok (.aload_n 0, 1) := by decide +kernel
theorem dX3_isForThis_15 : decode cX3_isForThis 15 = .ok (.getfield 14, 3) := by decide +kernel
theorem dX3_isForThis_18 : decode cX3_isForThis 18 = .ok (.iconst 4, 1) := by decide +kernel
theorem dX3_isForThis_19 : decode cX3_isForThis 19 = .ok (.invokevirtual 55, 3) := by decide +kernel
theorem dX3_isForThis_22 : decode cX3_isForThis 22 = .ok (.sipush 256, 3) := by decide +kernel
theorem dX3_isForThis_25 : decode cX3_isForThis 25 = .ok (.aload_n 0, 1) := by decide +kernel
theorem dX3_isForThis_26 : decode cX3_isForThis 26 = .ok (.getfield 14, 3) := by decide +kernel
theorem dX3_isForThis_29 : decode cX3_isForThis 29 = .ok (.iconst 5, 1) := by decide +kernel
theorem dX3_isForThis_30 : decode cX3_isForThis 30 = .ok (.invokevirtual 55, 3) := by decide +kernel
theorem dX3_isForThis_33 : decode cX3_isForThis 33 = .ok (.imul, 1) := by decide +kernel
theorem dX3_isForThis_34 : decode cX3_isForThis 34 = .ok (.iadd, 1) := by decide +kernel
theorem dX3_isForThis_35 : decode cX3_isForThis 35 = .ok (.bipush 10, 2) := by decide +kernel
theorem dX3_isForThis_37 : decode cX3_isForThis 37 = .ok (.if_icmp .ne 7, 3) := by decide +kernel
theorem dX3_isForThis_40 : decode cX3_isForThis 40 = .ok (.iconst 1, 1) := by decide +kernel
theorem dX3_isForThis_41 : decode cX3_isForThis 41 = .ok (.goto 4, 3) := by decide +kernel
theorem dX3_isForThis_44 : decode cX3_isForThis 44 = .ok (.iconst 0, 1) := by decide +kernel
theorem dX3_isForThis_45 : decode cX3_isForThis 45 = .ok (.ireturn, 1) := by decide +kernel
theorem dX3_from_0 : decode cX3_from 0 = .ok (.aload_n 0, 1) := by decide +kernel
theorem dX3_from_1 : decode cX3_from 1 = .ok (.getfield 14, 3) := by decide +kernel
theorem dX3_from_4 : decode cX3_from 4 = .ok (.bipush 6, 2) := by decide +kernel
theorem dX3_from_6 : decode cX3_from 6 = .ok (.invokevirtual 55, 3) := by decide +kernel
theorem dX3_from_9 : decode cX3_from 9 = .ok (.sipush 256, 3) := by decide +kernel
theorem dX3_from_12 : decode cX3_from 12 = .ok (.aload_n 0, 1) := by decide +kernel
theorem dX3_from_13 : decode cX3_from 13 = .ok (.getfield 14, 3) := by decide +kernel
theorem dX3_from_16 : decode cX3_from 16 = .ok (.bipush 7, 2) := by decide +kernel
theorem dX3_from_18 : decode cX3_from 18 = .ok (.invokevirtual 55, 3) := by decide +kernel
theorem dX3_from_21 : decode cX3_from 21 = .ok (.imul, 1) := by decide +kernel
theorem dX3_from_22 : decode cX3_from 22 = .ok (.iadd, 1) := by decide +kernel
theorem dX3_from_23 : decode cX3_from 23 = .ok (.ireturn, 1) := by decide +kernel
theorem dX3_payloadLength_0 : decode cX3_payloadLength 0 = .ok (.aload_n 0, 1) := by decide +kernel
theorem dX3_payloadLength_1 : decode cX3_payloadLength 1 = .ok (.getfield 14, 3) := by decide +kernel
theorem dX3_payloadLength_4 : decode cX3_payloadLength 4 = .ok (.iconst 2, 1) := by decide +kernel
theorem dX3_payloadLength_5 : decode cX3_payloadLength 5 = .ok (.invokevirtual 55, 3) := by decide +kernel
theorem dX3_payloadLength_8 : decode cX3_payloadLength 8 = .ok (.iconst 5, 1) := by decide +kernel
theorem dX3_payloadLength_9 : decode cX3_payloadLength 9 = .ok (.isub, 1) := by decide +kernel
theorem dX3_payloadLength_10 : decode cX3_payloadLength 10 = .ok (.ireturn, 1) := by decide +kernel
theorem dX3_payloadAt_0 : decode cX3_payloadAt 0 = .ok (.aload_n 0, 1) := by decide +kernel
theorem dX3_payloadAt_1 : decode cX3_payloadAt 1 = .ok (.getfield 14, 3) := by decide +kernel
theorem dX3_payloadAt_4 : decode cX3_payloadAt 4 = .ok (.bipush 10, 2) := by decide +kernel
theorem dX3_payloadAt_6 : decode cX3_payloadAt 6 = .ok (.iload_n 1, 1) := by decide +kernel
theorem dX3_payloadAt_7 : decode cX3_payloadAt 7 = .ok (.iadd, 1) := by decide +kernel
theorem dX3_payloadAt_8 : decode cX3_payloadAt 8 = .ok (.iload_n 1, 1) := by decide +kernel
theorem dX3_payloadAt_9 : decode cX3_payloadAt 9 = .ok (.bipush 16, 2) := by decide +kernel
theorem dX3_payloadAt_11 : decode cX3_payloadAt 11 = .ok (.idiv, 1) := by decide +kernel
theorem dX3_payloadAt_12 : decode cX3_payloadAt 12 = .ok (.iconst 2, 1) := by decide +kernel
theorem dX3_payloadAt_13 : decode cX3_payloadAt 13 = .ok (.imul, 1) := by decide +kernel
theorem dX3_payloadAt_14 : decode cX3_payloadAt 14 = .ok (.iadd, 1) := by decide +kernel
theorem dX3_payloadAt_15 : decode cX3_payloadAt 15 = .ok (.invokevirtual 55, 3) := by decide +kernel
theorem dX3_payloadAt_18 : decode cX3_payloadAt 18 = .ok (.ireturn, 1) := by decide +kernel
theorem dX3_dropFrame_0 : decode cX3_dropFrame 0 = .ok (.aload_n 0, 1) := by decide +kernel
theorem dX3_dropFrame_1 : decode cX3_dropFrame 1 = .ok (.getfield 14, 3) := by decide +kernel
theorem dX3_dropFrame_4 : decode cX3_dropFrame 4 = .ok (.aload_n 0, 1) := by decide +kernel
theorem dX3_dropFrame_5 : decode cX3_dropFrame 5 = .ok (.getfield 27, 3) := by decide +kernel
theorem dX3_dropFrame_8 : decode cX3_dropFrame 8 = .ok (.invokevirtual 41, 3) := by decide +kernel
theorem dX3_dropFrame_11 : decode cX3_dropFrame 11 = .ok (.aload_n 0, 1) := by decide +kernel
theorem dX3_dropFrame_12 : decode cX3_dropFrame 12 = .ok (.iconst 0, 1) := by decide +kernel
theorem dX3_dropFrame_13 : decode cX3_dropFrame 13 = .ok (.putfield 27, 3) := by decide +kernel
theorem dX3_dropFrame_16 : decode cX3_dropFrame 16 = .ok (.return_, 1) := by decide +kernel
theorem dX3_beginsOtherwise_0 : decode cX3_beginsOtherwise 0 = .ok (.aload_n 0, 1) := by decide +kernel
theorem dX3_beginsOtherwise_1 : decode cX3_beginsOtherwise 1 = .ok (.getfield 14, 3) := by decide +kernel
theorem dX3_beginsOtherwise_4 : decode cX3_beginsOtherwise 4 = .ok (.iconst 2, 1) := by decide +kernel
theorem dX3_beginsOtherwise_5 : decode cX3_beginsOtherwise 5 = .ok (.invokevirtual 55, 3) := by decide +kernel
theorem dX3_beginsOtherwise_8 : decode cX3_beginsOtherwise 8 = .ok (.istore_n 1, 1) := by decide +kernel
theorem dX3_beginsOtherwise_9 : decode cX3_beginsOtherwise 9 = .ok (.aload_n 0, 1) := by decide +kernel
theorem dX3_beginsOtherwise_10 : decode cX3_beginsOtherwise 10 = .ok (.getfield 14, 3) := by decide +kernel
theorem dX3_beginsOtherwise_13 : decode cX3_beginsOtherwise 13 = .ok (.invokevirtual 31, 3) := by decide +kernel
theorem dX3_beginsOtherwise_16 : decode cX3_beginsOtherwise 16 = .ok (.ifCond .le 15, 3) := by decide +kernel
theorem dX3_beginsOtherwise_19 : decode cX3_beginsOtherwise 19 = .ok (.aload_n 0, 1) := by decide +kernel
theorem dX3_beginsOtherwise_20 : decode cX3_beginsOtherwise 20 = .ok (.getfield 14, 3) := by decide +kernel
theorem dX3_beginsOtherwise_23 : decode cX3_beginsOtherwise 23 = .ok (.iconst 0, 1) := by decide +kernel
theorem dX3_beginsOtherwise_24 : decode cX3_beginsOtherwise 24 = .ok (.invokevirtual 55, 3) := by decide +kernel
theorem dX3_beginsOtherwise_27 : decode cX3_beginsOtherwise 27 = .ok (.iconst 5, 1) := by decide +kernel
theorem dX3_beginsOtherwise_28 : decode cX3_beginsOtherwise 28 = .ok (.if_icmp .ne 50, 3) := by decide +kernel
theorem dX3_beginsOtherwise_31 : decode cX3_beginsOtherwise 31 = .ok (.aload_n 0, 1) := by decide +kernel
theorem dX3_beginsOtherwise_32 : decode cX3_beginsOtherwise 32 = .ok (.getfield 14, 3) := by decide +kernel
theorem dX3_beginsOtherwise_35 : decode cX3_beginsOtherwise 35 = .ok (.invokevirtual 31, 3) := by decide +kernel
theorem dX3_beginsOtherwise_38 : decode cX3_beginsOtherwise 38 = .ok (.iconst 1, 1) := by decide +kernel
theorem dX3_beginsOtherwise_39 : decode cX3_beginsOtherwise 39 = .ok (.if_icmp .le 16, 3) := by decide +kernel
theorem dX3_beginsOtherwise_42 : decode cX3_beginsOtherwise 42 = .ok (.aload_n 0, 1) := by decide +kernel
theorem dX3_beginsOtherwise_43 : decode cX3_beginsOtherwise 43 = .ok (.getfield 14, 3) := by decide +kernel
theorem dX3_beginsOtherwise_46 : decode cX3_beginsOtherwise 46 = .ok (.iconst 1, 1) := by decide +kernel
theorem dX3_beginsOtherwise_47 : decode cX3_beginsOtherwise 47 = .ok (.invokevirtual 55, 3) := by decide +kernel
theorem dX3_beginsOtherwise_50 : decode cX3_beginsOtherwise 50 = .ok (.bipush 100, 2) := by decide +kernel
theorem dX3_beginsOtherwise_52 : decode cX3_beginsOtherwise 52 = .ok (.if_icmp .ne 26, 3) := by decide +kernel
theorem dX3_beginsOtherwise_55 : decode cX3_beginsOtherwise 55 = .ok (.aload_n 0, 1) := by decide +kernel
theorem dX3_beginsOtherwise_56 : decode cX3_beginsOtherwise 56 = .ok (.getfield 14, 3) := by decide +kernel
theorem dX3_beginsOtherwise_59 : decode cX3_beginsOtherwise 59 = .ok (.invokevirtual 31, 3) := by decide +kernel
theorem dX3_beginsOtherwise_62 : decode cX3_beginsOtherwise 62 = .ok (.iconst 2, 1) := by decide +kernel
theorem dX3_beginsOtherwise_63 : decode cX3_beginsOtherwise 63 = .ok (.if_icmp .le 19, 3) := by decide +kernel
theorem dX3_beginsOtherwise_66 : decode cX3_beginsOtherwise 66 = .ok (.iload_n 1, 1) := by decide +kernel
theorem dX3_beginsOtherwise_67 : decode cX3_beginsOtherwise 67 = .ok (.bipush 6, 2) := by decide +kernel
theorem dX3_beginsOtherwise_69 : decode cX3_beginsOtherwise 69 = .ok (.if_icmp .lt 9, 3) := by decide +kernel
theorem dX3_beginsOtherwise_72 : decode cX3_beginsOtherwise 72 = .ok (.iload_n 1, 1) := by decide +kernel
theorem dX3_beginsOtherwise_73 : decode cX3_beginsOtherwise 73 = .ok (.bipush 45, 2) := by decide +kernel
theorem dX3_beginsOtherwise_75 : decode cX3_beginsOtherwise 75 = .ok (.if_icmp .le 7, 3) := by decide +kernel
theorem dX3_beginsOtherwise_78 : decode cX3_beginsOtherwise 78 = .ok (.iconst 1, 1) := by decide +kernel
theorem dX3_beginsOtherwise_79 : decode cX3_beginsOtherwise 79 = .ok (.goto 4, 3) := by decide +kernel
theorem dX3_beginsOtherwise_82 : decode cX3_beginsOtherwise 82 = .ok (.iconst 0, 1) := by decide +kernel
theorem dX3_beginsOtherwise_83 : decode cX3_beginsOtherwise 83 = .ok (.ireturn, 1) := by decide +kernel
theorem dX3_stateOfBlocks_0 : decode cX3_stateOfBlocks 0 = .ok (.aload_n 0, 1) := by decide +kernel
theorem dX3_stateOfBlocks_1 : decode cX3_stateOfBlocks 1 = .ok (.getfield 27, 3) := by decide +kernel
theorem dX3_stateOfBlocks_4 : decode cX3_stateOfBlocks 4 = .ok (.bipush 10, 2) := by decide +kernel
theorem dX3_stateOfBlocks_6 : decode cX3_stateOfBlocks 6 = .ok (.isub, 1) := by decide +kernel
theorem dX3_stateOfBlocks_7 : decode cX3_stateOfBlocks 7 = .ok (.bipush 18, 2) := by decide +kernel
theorem dX3_stateOfBlocks_9 : decode cX3_stateOfBlocks 9 = .ok (.idiv, 1) := by decide +kernel
theorem dX3_stateOfBlocks_10 : decode cX3_stateOfBlocks 10 = .ok (.istore_n 1, 1) := by decide +kernel
theorem dX3_stateOfBlocks_11 : decode cX3_stateOfBlocks 11 = .ok (.aload_n 0, 1) := by decide +kernel
theorem dX3_stateOfBlocks_12 : decode cX3_stateOfBlocks 12 = .ok (.invokevirtual 59, 3) := by decide +kernel
theorem dX3_stateOfBlocks_15 : decode cX3_stateOfBlocks 15 = .ok (.iload_n 1, 1) := by decide +kernel
theorem dX3_stateOfBlocks_16 : decode cX3_stateOfBlocks 16 = .ok (.bipush 16, 2) := by decide +kernel
theorem dX3_stateOfBlocks_18 : decode cX3_stateOfBlocks 18 = .ok (.imul, 1) := by decide +kernel
theorem dX3_stateOfBlocks_19 : decode cX3_stateOfBlocks 19 = .ok (.isub, 1) := by decide +kernel
theorem dX3_stateOfBlocks_20 : decode cX3_stateOfBlocks 20 = .ok (.istore_n 2, 1) := by decide +kernel
theorem dX3_stateOfBlocks_21 : decode cX3_stateOfBlocks 21 = .ok (.iload_n 2, 1) := by decide +kernel
theorem dX3_stateOfBlocks_22 : decode cX3_stateOfBlocks 22 = .ok (.ifCond .le 62, 3) := by decide +kernel
theorem dX3_stateOfBlocks_25 : decode cX3_stateOfBlocks 25 = .ok (.iload_n 2, 1) := by decide +kernel
theorem dX3_stateOfBlocks_26 : decode cX3_stateOfBlocks 26 = .ok (.bipush 16, 2) := by decide +kernel
theorem dX3_stateOfBlocks_28 : decode cX3_stateOfBlocks 28 = .ok (.invokestatic 62, 3) := by decide +kernel
theorem dX3_stateOfBlocks_31 : decode cX3_stateOfBlocks 31 = .ok (.istore_n 3, 1) := by decide +kernel
theorem dX3_stateOfBlocks_32 : decode cX3_stateOfBlocks 32 = .ok (.aload_n 0, 1) := by decide +kernel
theorem dX3_stateOfBlocks_33 : decode cX3_stateOfBlocks 33 = .ok (.getfield 14, 3) := by decide +kernel
theorem dX3_stateOfBlocks_36 : decode cX3_stateOfBlocks 36 = .ok (.invokevirtual 31, 3) := by decide +kernel
theorem dX3_stateOfBlocks_39 : decode cX3_stateOfBlocks 39 = .ok (.aload_n 0, 1) := by decide +kernel
theorem dX3_stateOfBlocks_40 : decode cX3_stateOfBlocks 40 = .ok (.getfield 27, 3) := by decide +kernel
theorem dX3_stateOfBlocks_43 : decode cX3_stateOfBlocks 43 = .ok (.iload_n 3, 1) := by decide +kernel
theorem dX3_stateOfBlocks_44 : decode cX3_stateOfBlocks 44 = .ok (.iadd, 1) := by decide +kernel
theorem dX3_stateOfBlocks_45 : decode cX3_stateOfBlocks 45 = .ok (.iconst 2, 1) := by decide +kernel
theorem dX3_stateOfBlocks_46 : decode cX3_stateOfBlocks 46 = .ok (.iadd, 1) := by decide +kernel
theorem dX3_stateOfBlocks_47 : decode cX3_stateOfBlocks 47 = .ok (.if_icmp .ge 5, 3) := by decide +kernel
theorem dX3_stateOfBlocks_50 : decode cX3_stateOfBlocks 50 = .ok (.iconst 1, 1) := by decide +kernel
theorem dX3_stateOfBlocks_51 : decode cX3_stateOfBlocks 51 = .ok (.ireturn, 1) := by decide +kernel
theorem dX3_stateOfBlocks_52 : decode cX3_stateOfBlocks 52 = .ok (.aload_n 0, 1) := by decide +kernel
theorem dX3_stateOfBlocks_53 : decode cX3_stateOfBlocks 53 = .ok (.aload_n 0, 1) := by decide +kernel
theorem dX3_stateOfBlocks_54 : decode cX3_stateOfBlocks 54 = .ok (.getfield 27, 3) := by decide +kernel
theorem dX3_stateOfBlocks_57 : decode cX3_stateOfBlocks 57 = .ok (.iload_n 3, 1) := by decide +kernel
theorem dX3_stateOfBlocks_58 : decode cX3_stateOfBlocks 58 = .ok (.invokevirtual 48, 3) := by decide +kernel
theorem dX3_stateOfBlocks_61 : decode cX3_stateOfBlocks 61 = .ok (.ifCond .ne 5, 3) := by decide +kernel
theorem dX3_stateOfBlocks_64 : decode cX3_stateOfBlocks 64 = .ok (.iconst 0, 1) := by decide +kernel
theorem dX3_stateOfBlocks_65 : decode cX3_stateOfBlocks 65 = .ok (.ireturn, 1) := by decide +kernel
theorem dX3_stateOfBlocks_66 : decode cX3_stateOfBlocks 66 = .ok (.aload_n 0, 1) := by decide +kernel
theorem dX3_stateOfBlocks_67 : decode cX3_stateOfBlocks 67 = .ok (.dup, 1) := by decide +kernel
theorem dX3_stateOfBlocks_68 : decode cX3_stateOfBlocks 68 = .ok (.getfield 27, 3) := by decide +kernel
theorem dX3_stateOfBlocks_71 : decode cX3_stateOfBlocks 71 = .ok (.iload_n 3, 1) := by decide +kernel
theorem dX3_stateOfBlocks_72 : decode cX3_stateOfBlocks 72 = .ok (.iconst 2, 1) := by decide +kernel
theorem dX3_stateOfBlocks_73 : decode cX3_stateOfBlocks 73 = .ok (.iadd, 1) := by decide +kernel
theorem dX3_stateOfBlocks_74 : decode cX3_stateOfBlocks 74 = .ok (.iadd, 1) := by decide +kernel
theorem dX3_stateOfBlocks_75 : decode cX3_stateOfBlocks 75 = .ok (.putfield 27, 3) := by decide +kernel
theorem dX3_stateOfBlocks_78 : decode cX3_stateOfBlocks 78 = .ok (.iinc 2 (-16), 3) := by decide +kernel
theorem dX3_stateOfBlocks_81 : decode cX3_stateOfBlocks 81 = .ok (.goto (-60), 3) := by decide +kernel
theorem dX3_stateOfBlocks_84 : decode cX3_stateOfBlocks 84 = .ok (.iconst 2, 1) := by decide +kernel
theorem dX3_stateOfBlocks_85 : decode cX3_stateOfBlocks 85 = .ok (.ireturn, 1) := by decide +kernel
theorem dX3_sumIsRight_0 : decode cX3_sumIsRight 0 = .ok (.aload_n 0, 1) := by decide +kernel
theorem dX3_sumIsRight_1 : decode cX3_sumIsRight 1 = .ok (.getfield 23, 3) := by decide +kernel
theorem dX3_sumIsRight_4 : decode cX3_sumIsRight 4 = .ok (.invokevirtual 68, 3) := by decide +kernel
theorem dX3_sumIsRight_7 : decode cX3_sumIsRight 7 = .ok (.iload_n 1, 1) := by decide +kernel
theorem dX3_sumIsRight_8 : decode cX3_sumIsRight 8 = .ok (.istore_n 3, 1) := by decide +kernel
theorem dX3_sumIsRight_9 : decode cX3_sumIsRight 9 = .ok (.iload_n 3, 1) := by decide +kernel
theorem dX3_sumIsRight_10 : decode cX3_sumIsRight 10 = .ok (.iload_n 1, 1) := by decide +kernel
theorem dX3_sumIsRight_11 : decode cX3_sumIsRight 11 = .ok (.iload_n 2, 1) := by decide +kernel
theorem dX3_sumIsRight_12 : decode cX3_sumIsRight 12 = .ok (.iadd, 1) := by decide +kernel
theorem dX3_sumIsRight_13 : decode cX3_sumIsRight 13 = .ok (.if_icmp .ge 24, 3) := by decide +kernel
theorem dX3_sumIsRight_16 : decode cX3_sumIsRight 16 = .ok (.aload_n 0, 1) := by decide +kernel
theorem dX3_sumIsRight_17 : decode cX3_sumIsRight 17 = .ok (.getfield 23, 3) := by decide +kernel
theorem dX3_sumIsRight_20 : decode cX3_sumIsRight 20 = .ok (.aload_n 0, 1) := by decide +kernel
theorem dX3_sumIsRight_21 : decode cX3_sumIsRight 21 = .ok (.getfield 14, 3) := by decide +kernel
theorem dX3_sumIsRight_24 : decode cX3_sumIsRight 24 = .ok (.iload_n 3, 1) := by decide +kernel
theorem dX3_sumIsRight_25 : decode cX3_sumIsRight 25 = .ok (.invokevirtual 55, 3) := by decide +kernel
theorem dX3_sumIsRight_28 : decode cX3_sumIsRight 28 = .ok (.invokevirtual 71, 3) := by decide +kernel
theorem dX3_sumIsRight_31 : decode cX3_sumIsRight 31 = .ok (.iinc 3 1, 3) := by decide +kernel
theorem dX3_sumIsRight_34 : decode cX3_sumIsRight 34 = .ok (.goto (-25), 3) := by decide +kernel
theorem dX3_sumIsRight_37 : decode cX3_sumIsRight 37 = .ok (.aload_n 0, 1) := by decide +kernel
theorem dX3_sumIsRight_38 : decode cX3_sumIsRight 38 = .ok (.getfield 14, 3) := by decide +kernel
theorem dX3_sumIsRight_41 : decode cX3_sumIsRight 41 = .ok (.iload_n 1, 1) := by decide +kernel
theorem dX3_sumIsRight_42 : decode cX3_sumIsRight 42 = .ok (.iload_n 2, 1) := by decide +kernel
theorem dX3_sumIsRight_43 : decode cX3_sumIsRight 43 = .ok (.iadd, 1) := by decide +kernel
theorem dX3_sumIsRight_44 : decode cX3_sumIsRight 44 = .ok (.invokevirtual 55, 3) := by decide +kernel
theorem dX3_sumIsRight_47 : decode cX3_sumIsRight 47 = .ok (.sipush 256, 3) := by decide +kernel
theorem dX3_sumIsRight_50 : decode cX3_sumIsRight 50 = .ok (.aload_n 0, 1) := by decide +kernel
theorem dX3_sumIsRight_51 : decode cX3_sumIsRight 51 = .ok (.getfield 14, 3) := by decide +kernel
theorem dX3_sumIsRight_54 : decode cX3_sumIsRight 54 = .ok (.iload_n 1, 1) := by decide +kernel
theorem dX3_sumIsRight_55 : decode cX3_sumIsRight 55 = .ok (.iload_n 2, 1) := by decide +kernel
theorem dX3_sumIsRight_56 : decode cX3_sumIsRight 56 = .ok (.iadd, 1) := by decide +kernel
theorem dX3_sumIsRight_57 : decode cX3_sumIsRight 57 = .ok (.iconst 1, 1) := by decide +kernel
theorem dX3_sumIsRight_58 : decode cX3_sumIsRight 58 = .ok (.iadd, 1) := by decide +kernel
theorem dX3_sumIsRight_59 : decode cX3_sumIsRight 59 = .ok (.invokevirtual 55, 3) := by decide +kernel
theorem dX3_sumIsRight_62 : decode cX3_sumIsRight 62 = .ok (.imul, 1) := by decide +kernel
theorem dX3_sumIsRight_63 : decode cX3_sumIsRight 63 = .ok (.iadd, 1) := by decide +kernel
theorem dX3_sumIsRight_64 : decode cX3_sumIsRight 64 = .ok (.aload_n 0, 1) := by decide +kernel
theorem dX3_sumIsRight_65 : decode cX3_sumIsRight 65 = .ok (.getfield 23, 3) := by decide +kernel
theorem dX3_sumIsRight_68 : decode cX3_sumIsRight 68 = .ok (.invokevirtual 72, 3) := by decide +kernel
theorem dX3_sumIsRight_71 : decode cX3_sumIsRight 71 = .ok (.if_icmp .ne 7, 3) := by decide +kernel
theorem dX3_sumIsRight_74 : decode cX3_sumIsRight 74 = .ok (.iconst 1, 1) := by decide +kernel
theorem dX3_sumIsRight_75 : decode cX3_sumIsRight 75 = .ok (.goto 4, 3) := by decide +kernel
theorem dX3_sumIsRight_78 : decode cX3_sumIsRight 78 = .ok (.iconst 0, 1) := by decide +kernel
theorem dX3_sumIsRight_79 : decode cX3_sumIsRight 79 = .ok (.ireturn, 1) := by decide +kernel
theorem dX4_init_0 : decode cX4_init 0 = .ok (.aload_n 0, 1) := by decide +kernel
theorem dX4_init_1 : decode cX4_init 1 = .ok (.invokespecial 3, 3) := by decide +kernel
theorem dX4_init_4 : decode cX4_init 4 = .ok (.aload_n 0, 1) := by decide +kernel
theorem dX4_init_5 : decode cX4_init 5 = .ok (.new 9, 3) := by decide +kernel
theorem dX4_init_8 : decode cX4_init 8 = .ok (.dup, 1) := by decide +kernel
theorem dX4_init_9 : decode cX4_init 9 = .ok (.bipush 60, 2) := by decide +kernel
theorem dX4_init_11 : decode cX4_init 11 = .ok (.invokespecial 11, 3) := by decide +kernel
theorem dX4_init_14 : decode cX4_init 14 = .ok (.putfield 14, 3) := by decide +kernel
theorem dX4_init_17 : decode cX4_init 17 = .ok (.aload_n 0, 1) := by decide +kernel
theorem dX4_init_18 : decode cX4_init 18 = .ok (.iconst 0, 1) := by decide +kernel
theorem dX4_init_19 : decode cX4_init 19 = .ok (.putfield 20, 3) := by decide +kernel
theorem dX4_init_22 : decode cX4_init 22 = .ok (.aload_n 0, 1) := by decide +kernel
theorem dX4_init_23 : decode cX4_init 23 = .ok (.iconst 0, 1) := by decide +kernel
theorem dX4_init_24 : decode cX4_init 24 = .ok (.putfield 24, 3) := by decide +kernel
theorem dX4_init_27 : decode cX4_init 27 = .ok (.aload_n 0, 1) := by decide +kernel
theorem dX4_init_28 : decode cX4_init 28 = .ok (.iconst 0, 1) := by decide +kernel
theorem dX4_init_29 : decode cX4_init 29 = .ok (.putfield 28, 3) := by decide +kernel
theorem dX4_init_32 : decode cX4_init 32 = .ok (.return_, 1) := by decide +kernel
theorem dX4_fragment_0 : decode cX4_fragment 0 = .ok (.aload_n 0, 1) := by decide +kernel
theorem dX4_fragment_1 : decode cX4_fragment 1 = .ok (.getfield 14, 3) := by decide +kernel
theorem dX4_fragment_4 : decode cX4_fragment 4 = .ok (.areturn, 1) := by decide +kernel
theorem dX4_from_0 : decode cX4_from 0 = .ok (.aload_n 0, 1) := by decide +kernel
theorem dX4_from_1 : decode cX4_from 1 = .ok (.getfield 28, 3) := by decide +kernel
theorem dX4_from_4 : decode cX4_from 4 = .ok (.ireturn, 1) := by decide +kernel
theorem dX4_take_0 : decode cX4_take 0 = .ok (.aload_n 1, 1) := by decide +kernel
theorem dX4_take_1 : decode cX4_take 1 = .ok (.iconst 0, 1) := by decide +kernel
theorem dX4_take_2 : decode cX4_take 2 = .ok (.invokevirtual 31, 3) := by decide +kernel
theorem dX4_take_5 : decode cX4_take 5 = .ok (.istore_n 2, 1) := by decide +kernel
theorem dX4_take_6 : decode cX4_take 6 = .ok (.iload_n 2, 1) := by decide +kernel
theorem dX4_take_7 : decode cX4_take 7 = .ok (.bipush 64, 2) := by decide +kernel
theorem dX4_take_9 : decode cX4_take 9 = .ok (.iand, 1) := by decide +kernel
theorem dX4_take_10 : decode cX4_take 10 = .ok (.ifCond .eq 18, 3) := by decide +kernel
theorem dX4_take_13 : decode cX4_take 13 = .ok (.aload_n 0, 1) := by decide +kernel
theorem dX4_take_14 : decode cX4_take 14 = .ok (.getfield 14, 3) := by decide +kernel
theorem dX4_take_17 : decode cX4_take 17 = .ok (.invokevirtual 37, 3) := by decide +kernel
theorem dX4_take_20 : decode cX4_take 20 = .ok (.aload_n 0, 1) := by decide +kernel
theorem dX4_take_21 : decode cX4_take 21 = .ok (.iconst 1, 1) := by decide +kernel
theorem dX4_take_22 : decode cX4_take 22 = .ok (.putfield 20, 3) := by decide +kernel
theorem dX4_take_25 : decode cX4_take 25 = .ok (.goto 16, 3) := by decide +kernel
theorem dX4_take_28 : decode cX4_take 28 = .ok (.aload_n 0, 1) := by decide +kernel
theorem dX4_take_29 : decode cX4_take 29 = .ok (.aload_n 0, 1) := by decide +kernel
theorem dX4_take_30 : decode cX4_take 30 = .ok (.iload_n 2, 1) := by decide +kernel
theorem dX4_take_31 : decode cX4_take 31 = .ok (.bipush 64, 2) := by decide +kernel
theorem dX4_take_33 : decode cX4_take 33 = .ok (.irem, 1) := by decide +kernel
theorem dX4_take_34 : decode cX4_take 34 = .ok (.aload_n 1, 1) := by decide +kernel
theorem dX4_take_35 : decode cX4_take 35 = .ok (.invokevirtual 40, 3) := by decide +kernel
theorem dX4_take_38 : decode cX4_take 38 = .ok (.putfield 20, 3) := by decide +kernel
theorem dX4_take_41 : decode cX4_take 41 = .ok (.aload_n 0, 1) := by decide +kernel
theorem dX4_take_42 : decode cX4_take 42 = .ok (.getfield 20, 3) := by decide +kernel
theorem dX4_take_45 : decode cX4_take 45 = .ok (.ifCond .ne 5, 3) := by decide +kernel
theorem dX4_take_48 : decode cX4_take 48 = .ok (.iconst 0, 1) := by decide +kernel
theorem dX4_take_49 : decode cX4_take 49 = .ok (.ireturn, 1) := by decide +kernel
theorem dX4_take_50 : decode cX4_take 50 = .ok (.aload_n 0, 1) := by decide +kernel
theorem dX4_take_51 : decode cX4_take 51 = .ok (.iload_n 2, 1) := by decide +kernel
theorem dX4_take_52 : decode cX4_take 52 = .ok (.bipush 64, 2) := by decide +kernel
theorem dX4_take_54 : decode cX4_take 54 = .ok (.irem, 1) := by decide +kernel
theorem dX4_take_55 : decode cX4_take 55 = .ok (.putfield 24, 3) := by decide +kernel
theorem dX4_take_58 : decode cX4_take 58 = .ok (.aload_n 0, 1) := by decide +kernel
theorem dX4_take_59 : decode cX4_take 59 = .ok (.aload_n 1, 1) := by decide +kernel
theorem dX4_take_60 : decode cX4_take 60 = .ok (.invokevirtual 44, 3) := by decide +kernel
theorem dX4_take_63 : decode cX4_take 63 = .ok (.putfield 28, 3) := by decide +kernel
theorem dX4_take_66 : decode cX4_take 66 = .ok (.iconst 1, 1) := by decide +kernel
theorem dX4_take_67 : decode cX4_take 67 = .ok (.istore_n 3, 1) := by decide +kernel
theorem dX4_take_68 : decode cX4_take 68 = .ok (.iload_n 3, 1) := by decide +kernel
theorem dX4_take_69 : decode cX4_take 69 = .ok (.aload_n 1, 1) := by decide +kernel
theorem dX4_take_70 : decode cX4_take 70 = .ok (.invokevirtual 47, 3) := by decide +kernel
theorem dX4_take_73 : decode cX4_take 73 = .ok (.if_icmp .ge 21, 3) := by decide +kernel
theorem dX4_take_76 : decode cX4_take 76 = .ok (.aload_n 0, 1) := by decide +kernel
theorem dX4_take_77 : decode cX4_take 77 = .ok (.getfield 14, 3) := by decide +kernel
theorem dX4_take_80 : decode cX4_take 80 = .ok (.aload_n 1, 1) := by decide +kernel
theorem dX4_take_81 : decode cX4_take 81 = .ok (.iload_n 3, 1) := by decide +kernel
theorem dX4_take_82 : decode cX4_take 82 = .ok (.invokevirtual 31, 3) := by decide +kernel
theorem dX4_take_85 : decode cX4_take 85 = .ok (.invokevirtual 50, 3) := by decide +kernel
theorem dX4_take_88 : decode cX4_take 88 = .ok (.iinc 3 1, 3) := by decide +kernel
theorem dX4_take_91 : decode cX4_take 91 = .ok (.goto (-23), 3) := by decide +kernel
theorem dX4_take_94 : decode cX4_take 94 = .ok (.aload_n 0, 1) := by decide +kernel
theorem dX4_take_95 : decode cX4_take 95 = .ok (.iload_n 2, 1) := by decide +kernel
theorem dX4_take_96 : decode cX4_take 96 = .ok (.sipush 128, 3) := by decide +kernel
theorem dX4_take_99 : decode cX4_take 99 = .ok (.iand, 1) := by decide +kernel
theorem dX4_take_100 : decode cX4_take 100 = .ok (.ifCond .ne 7, 3) := by decide +kernel
theorem dX4_take_103 : decode cX4_take 103 = .ok (.iconst 1, 1) := by decide +kernel
theorem dX4_take_104 : decode cX4_take 104 = .ok (.goto 4, 3) := by decide +kernel
theorem dX4_take_107 : decode cX4_take 107 = .ok (.iconst 0, 1) := by decide +kernel
theorem dX4_take_108 : decode cX4_take 108 = .ok (.putfield 20, 3) := by decide +kernel
theorem dX4_take_111 : decode cX4_take 111 = .ok (.aload_n 0, 1) := by decide +kernel
theorem dX4_take_112 : decode cX4_take 112 = .ok (.getfield 20, 3) := by decide +kernel
theorem dX4_take_115 : decode cX4_take 115 = .ok (.ifCond .ne 7, 3) := by decide +kernel
theorem dX4_take_118 : decode cX4_take 118 = .ok (.iconst 1, 1) := by decide +kernel
theorem dX4_take_119 : decode cX4_take 119 = .ok (.goto 4, 3) := by decide +kernel
theorem dX4_take_122 : decode cX4_take 122 = .ok (.iconst 0, 1) := by decide +kernel
theorem dX4_take_123 : decode cX4_take 123 = .ok (.ireturn, 1) := by decide +kernel
theorem dX4_goesOn_0 : decode cX4_goesOn 0 = .ok (.aload_n 0, 1) := by decide +kernel
theorem dX4_goesOn_1 : decode cX4_goesOn 1 = .ok (.getfield 20, 3) := by decide +kernel
theorem dX4_goesOn_4 : decode cX4_goesOn 4 = .ok (.ifCond .eq 47, 3) := by decide +kernel
theorem dX4_goesOn_7 : decode cX4_goesOn 7 = .ok (.aload_n 2, 1) := by decide +kernel
theorem dX4_goesOn_8 : decode cX4_goesOn 8 = .ok (.invokevirtual 44, 3) := by decide +kernel
theorem dX4_goesOn_11 : decode cX4_goesOn 11 = .ok (.aload_n 0, 1) := by decide +kernel
theorem dX4_goesOn_12 : decode cX4_goesOn 12 = .ok (.getfield 28, 3) := by decide +kernel
theorem dX4_goesOn_15 : decode cX4_goesOn 15 = .ok (.if_icmp .ne 36, 3) := by decide +kernel
theorem dX4_goesOn_18 : decode cX4_goesOn 18 = .ok (.iload_n 1, 1) := by decide +kernel
theorem dX4_goesOn_19 : decode cX4_goesOn 19 = .ok (.aload_n 0, 1) := by decide +kernel
theorem dX4_goesOn_20 : decode cX4_goesOn 20 = .ok (.getfield 24, 3) := by decide +kernel
theorem dX4_goesOn_23 : decode cX4_goesOn 23 = .ok (.iconst 1, 1) := by decide +kernel
theorem dX4_goesOn_24 : decode cX4_goesOn 24 = .ok (.iadd, 1) := by decide +kernel
theorem dX4_goesOn_25 : decode cX4_goesOn 25 = .ok (.bipush 64, 2) := by decide +kernel
theorem dX4_goesOn_27 : decode cX4_goesOn 27 = .ok (.irem, 1) := by decide +kernel
theorem dX4_goesOn_28 : decode cX4_goesOn 28 = .ok (.if_icmp .ne 23, 3) := by decide +kernel
theorem dX4_goesOn_31 : decode cX4_goesOn 31 = .ok (.aload_n 2, 1) := by decide +kernel
theorem dX4_goesOn_32 : decode cX4_goesOn 32 = .ok (.invokevirtual 47, 3) := by decide +kernel
theorem dX4_goesOn_35 : decode cX4_goesOn 35 = .ok (.iconst 1, 1) := by decide +kernel
theorem dX4_goesOn_36 : decode cX4_goesOn 36 = .ok (.isub, 1) := by decide +kernel
theorem dX4_goesOn_37 : decode cX4_goesOn 37 = .ok (.aload_n 0, 1) := by decide +kernel
theorem dX4_goesOn_38 : decode cX4_goesOn 38 = .ok (.getfield 14, 3) := by decide +kernel
theorem dX4_goesOn_41 : decode cX4_goesOn 41 = .ok (.invokevirtual 53, 3) := by decide +kernel
theorem dX4_goesOn_44 : decode cX4_goesOn 44 = .ok (.if_icmp .gt 7, 3) := by decide +kernel
theorem dX4_goesOn_47 : decode cX4_goesOn 47 = .ok (.iconst 1, 1) := by decide +kernel
theorem dX4_goesOn_48 : decode cX4_goesOn 48 = .ok (.goto 4, 3) := by decide +kernel
theorem dX4_goesOn_51 : decode cX4_goesOn 51 = .ok (.iconst 0, 1) := by decide +kernel
theorem dX4_goesOn_52 : decode cX4_goesOn 52 = .ok (.ireturn, 1) := by decide +kernel
theorem dX5_init_0 : decode cX5_init 0 = .ok (.aload_n 0, 1) := by decide +kernel
theorem dX5_init_1 : decode cX5_init 1 = .ok (.invokespecial 3, 3) := by decide +kernel
theorem dX5_init_4 : decode cX5_init 4 = .ok (.aload_n 0, 1) := by decide +kernel
theorem dX5_init_5 : decode cX5_init 5 = .ok (.new 9, 3) := by decide +kernel
theorem dX5_init_8 : decode cX5_init 8 = .ok (.dup, 1) := by decide +kernel
theorem dX5_init_9 : decode cX5_init 9 = .ok (.bipush 10, 2) := by decide +kernel
theorem dX5_init_11 : decode cX5_init 11 = .ok (.invokespecial 11, 3) := by decide +kernel
theorem dX5_init_14 : decode cX5_init 14 = .ok (.putfield 14, 3) := by decide +kernel
theorem dX5_init_17 : decode cX5_init 17 = .ok (.return_, 1) := by decide +kernel
theorem dX5_latest_0 : decode cX5_latest 0 = .ok (.aload_n 0, 1) := by decide +kernel
theorem dX5_latest_1 : decode cX5_latest 1 = .ok (.getfield 14, 3) := by decide +kernel
theorem dX5_latest_4 : decode cX5_latest 4 = .ok (.areturn, 1) := by decide +kernel
theorem dX5_take_0 : decode cX5_take 0 = .ok (.aload_n 0, 1) := by decide +kernel
theorem dX5_take_1 : decode cX5_take 1 = .ok (.getfield 14, 3) := by decide +kernel
theorem dX5_take_4 : decode cX5_take 4 = .ok (.invokevirtual 20, 3) := by decide +kernel
theorem dX5_take_7 : decode cX5_take 7 = .ok (.lload_n 1, 1) := by decide +kernel
theorem dX5_take_8 : decode cX5_take 8 = .ok (.iload_n 3, 1) := by decide +kernel
theorem dX5_take_9 : decode cX5_take 9 = .ok (.iconst 0, 1) := by decide +kernel
theorem dX5_take_10 : decode cX5_take 10 = .ok (.invokestatic 23, 3) := by decide +kernel
theorem dX5_take_13 : decode cX5_take 13 = .ok (.istore 5, 2) := by decide +kernel
theorem dX5_take_15 : decode cX5_take 15 = .ok (.iload 5, 2) := by decide +kernel
theorem dX5_take_17 : decode cX5_take 17 = .ok (.iconst 1, 1) := by decide +kernel
theorem dX5_take_18 : decode cX5_take 18 = .ok (.if_icmp .eq 19, 3) := by decide +kernel
theorem dX5_take_21 : decode cX5_take 21 = .ok (.iload 5, 2) := by decide +kernel
theorem dX5_take_23 : decode cX5_take 23 = .ok (.iconst 4, 1) := by decide +kernel
theorem dX5_take_24 : decode cX5_take 24 = .ok (.if_icmp .eq 13, 3) := by decide +kernel
theorem dX5_take_27 : decode cX5_take 27 = .ok (.aload_n 0, 1) := by decide +kernel
theorem dX5_take_28 : decode cX5_take 28 = .ok (.iload 5, 2) := by decide +kernel
theorem dX5_take_30 : decode cX5_take 30 = .ok (.iconst 1, 1) := by decide +kernel
theorem dX5_take_31 : decode cX5_take 31 = .ok (.invokevirtual 27, 3) := by decide +kernel
theorem dX5_take_34 : decode cX5_take 34 = .ok (.goto 47, 3) := by decide +kernel
theorem dX5_take_37 : decode cX5_take 37 = .ok (.iload_n 3, 1) := by decide +kernel
theorem dX5_take_38 : decode cX5_take 38 = .ok (.iconst 5, 1) := by decide +kernel
theorem dX5_take_39 : decode cX5_take 39 = .ok (.if_icmp .eq 13, 3) := by decide +kernel
theorem dX5_take_42 : decode cX5_take 42 = .ok (.aload_n 0, 1) := by decide +kernel
theorem dX5_take_43 : decode cX5_take 43 = .ok (.iload 5, 2) := by decide +kernel
theorem dX5_take_45 : decode cX5_take 45 = .ok (.iconst 3, 1) := by decide +kernel
theorem dX5_take_46 : decode cX5_take 46 = .ok (.invokevirtual 27, 3) := by decide +kernel
theorem dX5_take_49 : decode cX5_take 49 = .ok (.goto 32, 3) := by decide +kernel
theorem dX5_take_52 : decode cX5_take 52 = .ok (.lload_n 1, 1) := by decide +kernel
theorem dX5_take_53 : decode cX5_take 53 = .ok (.bipush 16, 2) := by decide +kernel
theorem dX5_take_55 : decode cX5_take 55 = .ok (.lushr, 1) := by decide +kernel
theorem dX5_take_56 : decode cX5_take 56 = .ok (.l2i, 1) := by decide +kernel
theorem dX5_take_57 : decode cX5_take 57 = .ok (.ldc 31, 2) := by decide +kernel
theorem dX5_take_59 : decode cX5_take 59 = .ok (.iand, 1) := by decide +kernel
theorem dX5_take_60 : decode cX5_take 60 = .ok (.istore 6, 2) := by decide +kernel
theorem dX5_take_62 : decode cX5_take 62 = .ok (.lload_n 1, 1) := by decide +kernel
theorem dX5_take_63 : decode cX5_take 63 = .ok (.l2i, 1) := by decide +kernel
theorem dX5_take_64 : decode cX5_take 64 = .ok (.ldc 31, 2) := by decide +kernel
theorem dX5_take_66 : decode cX5_take 66 = .ok (.iand, 1) := by decide +kernel
theorem dX5_take_67 : decode cX5_take 67 = .ok (.istore 7, 2) := by decide +kernel
theorem dX5_take_69 : decode cX5_take 69 = .ok (.aload_n 0, 1) := by decide +kernel
theorem dX5_take_70 : decode cX5_take 70 = .ok (.iload 5, 2) := by decide +kernel
theorem dX5_take_72 : decode cX5_take 72 = .ok (.iload 6, 2) := by decide +kernel
theorem dX5_take_74 : decode cX5_take 74 = .ok (.iload 7, 2) := by decide +kernel
theorem dX5_take_76 : decode cX5_take 76 = .ok (.aload 4, 2) := by decide +kernel
theorem dX5_take_78 : decode cX5_take 78 = .ok (.invokevirtual 32, 3) := by decide +kernel
theorem dX5_take_81 : decode cX5_take 81 = .ok (.return_, 1) := by decide +kernel
theorem dX5_refuse_0 : decode cX5_refuse 0 = .ok (.aload_n 0, 1) := by decide +kernel
theorem dX5_refuse_1 : decode cX5_refuse 1 = .ok (.getfield 14, 3) := by decide +kernel
theorem dX5_refuse_4 : decode cX5_refuse 4 = .ok (.iload_n 1, 1) := by decide +kernel
theorem dX5_refuse_5 : decode cX5_refuse 5 = .ok (.sipush 128, 3) := by decide +kernel
theorem dX5_refuse_8 : decode cX5_refuse 8 = .ok (.irem, 1) := by decide +kernel
theorem dX5_refuse_9 : decode cX5_refuse 9 = .ok (.sipush 128, 3) := by decide +kernel
theorem dX5_refuse_12 : decode cX5_refuse 12 = .ok (.iadd, 1) := by decide +kernel
theorem dX5_refuse_13 : decode cX5_refuse 13 = .ok (.invokevirtual 36, 3) := by decide +kernel
theorem dX5_refuse_16 : decode cX5_refuse 16 = .ok (.aload_n 0, 1) := by decide +kernel
theorem dX5_refuse_17 : decode cX5_refuse 17 = .ok (.getfield 14, 3) := by decide +kernel
theorem dX5_refuse_20 : decode cX5_refuse 20 = .ok (.iload_n 2, 1) := by decide +kernel
theorem dX5_refuse_21 : decode cX5_refuse 21 = .ok (.invokevirtual 36, 3) := by decide +kernel
theorem dX5_refuse_24 : decode cX5_refuse 24 = .ok (.return_, 1) := by decide +kernel
theorem dX5_answer_0 : decode cX5_answer 0 = .ok (.iload_n 1, 1) := by decide +kernel
theorem dX5_answer_1 : decode cX5_answer 1 = .ok (.iconst 1, 1) := by decide +kernel
theorem dX5_answer_2 : decode cX5_answer 2 = .ok (.if_icmp .ne 8, 3) := by decide +kernel
theorem dX5_answer_5 : decode cX5_answer 5 = .ok (.bipush 8, 2) := by decide +kernel
theorem dX5_answer_7 : decode cX5_answer 7 = .ok (.goto 4, 3) := by decide +kernel
theorem dX5_answer_10 : decode cX5_answer 10 = .ok (.iconst 4, 1) := by decide +kernel
theorem dX5_answer_11 : decode cX5_answer 11 = .ok (.istore 5, 2) := by decide +kernel
theorem dX5_answer_13 : decode cX5_answer 13 = .ok (.iload_n 1, 1) := by decide +kernel
theorem dX5_answer_14 : decode cX5_answer 14 = .ok (.iconst 1, 1) := by decide +kernel
theorem dX5_answer_15 : decode cX5_answer 15 = .ok (.if_icmp .ne 8, 3) := by decide +kernel
theorem dX5_answer_18 : decode cX5_answer 18 = .ok (.bipush 8, 2) := by decide +kernel
theorem dX5_answer_20 : decode cX5_answer 20 = .ok (.goto 5, 3) := by decide +kernel
theorem dX5_answer_23 : decode cX5_answer 23 = .ok (.bipush 16, 2) := by decide +kernel
theorem dX5_answer_25 : decode cX5_answer 25 = .ok (.istore 6, 2) := by decide +kernel
theorem dX5_answer_27 : decode cX5_answer 27 = .ok (.iload_n 3, 1) := by decide +kernel
theorem dX5_answer_28 : decode cX5_answer 28 = .ok (.iconst 1, 1) := by decide +kernel
theorem dX5_answer_29 : decode cX5_answer 29 = .ok (.if_icmp .lt 9, 3) := by decide +kernel
theorem dX5_answer_32 : decode cX5_answer 32 = .ok (.iload_n 3, 1) := by decide +kernel
theorem dX5_answer_33 : decode cX5_answer 33 = .ok (.iload 5, 2) := by decide +kernel
theorem dX5_answer_35 : decode cX5_answer 35 = .ok (.if_icmp .le 12, 3) := by decide +kernel
theorem dX5_answer_38 : decode cX5_answer 38 = .ok (.aload_n 0, 1) := by decide +kernel
theorem dX5_answer_39 : decode cX5_answer 39 = .ok (.iload_n 1, 1) := by decide +kernel
theorem dX5_answer_40 : decode cX5_answer 40 = .ok (.iconst 3, 1) := by decide +kernel
theorem dX5_answer_41 : decode cX5_answer 41 = .ok (.invokevirtual 27, 3) := by decide +kernel
theorem dX5_answer_44 : decode cX5_answer 44 = .ok (.goto 44, 3) := by decide +kernel
theorem dX5_answer_47 : decode cX5_answer 47 = .ok (.iload_n 2, 1) := by decide +kernel
theorem dX5_answer_48 : decode cX5_answer 48 = .ok (.iload_n 3, 1) := by decide +kernel
theorem dX5_answer_49 : decode cX5_answer 49 = .ok (.iadd, 1) := by decide +kernel
theorem dX5_answer_50 : decode cX5_answer 50 = .ok (.iload 6, 2) := by decide +kernel
theorem dX5_answer_52 : decode cX5_answer 52 = .ok (.if_icmp .le 12, 3) := by decide +kernel
theorem dX5_answer_55 : decode cX5_answer 55 = .ok (.aload_n 0, 1) := by decide +kernel
theorem dX5_answer_56 : decode cX5_answer 56 = .ok (.iload_n 1, 1) := by decide +kernel
theorem dX5_answer_57 : decode cX5_answer 57 = .ok (.iconst 2, 1) := by decide +kernel
theorem dX5_answer_58 : decode cX5_answer 58 = .ok (.invokevirtual 27, 3) := by decide +kernel
theorem dX5_answer_61 : decode cX5_answer 61 = .ok (.goto 27, 3) := by decide +kernel
theorem dX5_answer_64 : decode cX5_answer 64 = .ok (.iload_n 1, 1) := by decide +kernel
theorem dX5_answer_65 : decode cX5_answer 65 = .ok (.iconst 1, 1) := by decide +kernel
theorem dX5_answer_66 : decode cX5_answer 66 = .ok (.if_icmp .ne 14, 3) := by decide +kernel
theorem dX5_answer_69 : decode cX5_answer 69 = .ok (.aload_n 0, 1) := by decide +kernel
theorem dX5_answer_70 : decode cX5_answer 70 = .ok (.iload_n 2, 1) := by decide +kernel
theorem dX5_answer_71 : decode cX5_answer 71 = .ok (.iload_n 3, 1) := by decide +kernel
theorem dX5_answer_72 : decode cX5_answer 72 = .ok (.aload 4, 2) := by decide +kernel
theorem dX5_answer_74 : decode cX5_answer 74 = .ok (.invokevirtual 39, 3) := by decide +kernel
theorem dX5_answer_77 : decode cX5_answer 77 = .ok (.goto 11, 3) := by decide +kernel
theorem dX5_answer_80 : decode cX5_answer 80 = .ok (.aload_n 0, 1) := by decide +kernel
theorem dX5_answer_81 : decode cX5_answer 81 = .ok (.iload_n 2, 1) := by decide +kernel
theorem dX5_answer_82 : decode cX5_answer 82 = .ok (.iload_n 3, 1) := by decide +kernel
theorem dX5_answer_83 : decode cX5_answer 83 = .ok (.aload 4, 2) := by decide +kernel
theorem dX5_answer_85 : decode cX5_answer 85 = .ok (.invokevirtual 43, 3) := by decide +kernel
theorem dX5_answer_88 : decode cX5_answer 88 = .ok (.return_, 1) := by decide +kernel
theorem dX5_tellBits_0 : decode cX5_tellBits 0 = .ok (.iconst 0, 1) := by decide +kernel
theorem dX5_tellBits_1 : decode cX5_tellBits 1 = .ok (.istore 4, 2) := by decide +kernel
theorem dX5_tellBits_3 : decode cX5_tellBits 3 = .ok (.iconst 0, 1) := by decide +kernel
theorem dX5_tellBits_4 : decode cX5_tellBits 4 = .ok (.istore 5, 2) := by decide +kernel
theorem dX5_tellBits_6 : decode cX5_tellBits 6 = .ok (.iload 5, 2) := by decide +kernel
theorem dX5_tellBits_8 : decode cX5_tellBits 8 = .ok (.iload_n 2, 1) := by decide +kernel
theorem dX5_tellBits_9 : decode cX5_tellBits 9 = .ok (.if_icmp .ge 26, 3) := by decide +kernel
theorem dX5_tellBits_12 : decode cX5_tellBits 12 = .ok (.iload 4, 2) := by decide +kernel
theorem dX5_tellBits_14 : decode cX5_tellBits 14 = .ok (.aload_n 3, 1) := by decide +kernel
theorem dX5_tellBits_15 : decode cX5_tellBits 15 = .ok (.iconst 0, 1) := by decide +kernel
theorem dX5_tellBits_16 : decode cX5_tellBits 16 = .ok (.iload_n 1, 1) := by decide +kernel
theorem dX5_tellBits_17 : decode cX5_tellBits 17 = .ok (.iload 5, 2) := by decide +kernel
theorem dX5_tellBits_19 : decode cX5_tellBits 19 = .ok (.iadd, 1) := by decide +kernel
theorem dX5_tellBits_20 : decode cX5_tellBits 20 = .ok (.invokevirtual 46, 3) := by decide +kernel
theorem dX5_tellBits_23 : decode cX5_tellBits 23 = .ok (.iload 5, 2) := by decide +kernel
theorem dX5_tellBits_25 : decode cX5_tellBits 25 = .ok (.ishl, 1) := by decide +kernel
theorem dX5_tellBits_26 : decode cX5_tellBits 26 = .ok (.ior, 1) := by decide +kernel
theorem dX5_tellBits_27 : decode cX5_tellBits 27 = .ok (.istore 4, 2) := by decide +kernel
theorem dX5_tellBits_29 : decode cX5_tellBits 29 = .ok (.iinc 5 1, 3) := by decide +kernel
theorem dX5_tellBits_32 : decode cX5_tellBits 32 = .ok (.goto (-26), 3) := by decide +kernel
theorem dX5_tellBits_35 : decode cX5_tellBits 35 = .ok (.aload_n 0, 1) := by decide +kernel
theorem dX5_tellBits_36 : decode cX5_tellBits 36 = .ok (.getfield 14, 3) := by decide +kernel
theorem dX5_tellBits_39 : decode cX5_tellBits 39 = .ok (.iconst 1, 1) := by decide +kernel
theorem dX5_tellBits_40 : decode cX5_tellBits 40 = .ok (.invokevirtual 36, 3) := by decide +kernel
theorem dX5_tellBits_43 : decode cX5_tellBits 43 = .ok (.aload_n 0, 1) := by decide +kernel
theorem dX5_tellBits_44 : decode cX5_tellBits 44 = .ok (.getfield 14, 3) := by decide +kernel
theorem dX5_tellBits_47 : decode cX5_tellBits 47 = .ok (.iconst 1, 1) := by decide +kernel
theorem dX5_tellBits_48 : decode cX5_tellBits 48 = .ok (.invokevirtual 36, 3) := by decide +kernel
theorem dX5_tellBits_51 : decode cX5_tellBits 51 = .ok (.aload_n 0, 1) := by decide +kernel
theorem dX5_tellBits_52 : decode cX5_tellBits 52 = .ok (.getfield 14, 3) := by decide +kernel
theorem dX5_tellBits_55 : decode cX5_tellBits 55 = .ok (.iload 4, 2) := by decide +kernel
theorem dX5_tellBits_57 : decode cX5_tellBits 57 = .ok (.invokevirtual 36, 3) := by decide +kernel
theorem dX5_tellBits_60 : decode cX5_tellBits 60 = .ok (.return_, 1) := by decide +kernel
theorem dX5_tellWords_0 : decode cX5_tellWords 0 = .ok (.aload_n 0, 1) := by decide +kernel
theorem dX5_tellWords_1 : decode cX5_tellWords 1 = .ok (.getfield 14, 3) := by decide +kernel
theorem dX5_tellWords_4 : decode cX5_tellWords 4 = .ok (.iconst 4, 1) := by decide +kernel
theorem dX5_tellWords_5 : decode cX5_tellWords 5 = .ok (.invokevirtual 36, 3) := by decide +kernel
theorem dX5_tellWords_8 : decode cX5_tellWords 8 = .ok (.aload_n 0, 1) := by decide +kernel
theorem dX5_tellWords_9 : decode cX5_tellWords 9 = .ok (.getfield 14, 3) := by decide +kernel
theorem dX5_tellWords_12 : decode cX5_tellWords 12 = .ok (.iconst 2, 1) := by decide +kernel
theorem dX5_tellWords_13 : decode cX5_tellWords 13 = .ok (.iload_n 2, 1) := by decide +kernel
theorem dX5_tellWords_14 : decode cX5_tellWords 14 = .ok (.imul, 1) := by decide +kernel
theorem dX5_tellWords_15 : decode cX5_tellWords 15 = .ok (.invokevirtual 36, 3) := by decide +kernel
theorem dX5_tellWords_18 : decode cX5_tellWords 18 = .ok (.iload_n 1, 1) := by decide +kernel
theorem dX5_tellWords_19 : decode cX5_tellWords 19 = .ok (.istore 4, 2) := by decide +kernel
theorem dX5_tellWords_21 : decode cX5_tellWords 21 = .ok (.iload 4, 2) := by decide +kernel
theorem dX5_tellWords_23 : decode cX5_tellWords 23 = .ok (.iload_n 1, 1) := by decide +kernel
theorem dX5_tellWords_24 : decode cX5_tellWords 24 = .ok (.iload_n 2, 1) := by decide +kernel
theorem dX5_tellWords_25 : decode cX5_tellWords 25 = .ok (.iadd, 1) := by decide +kernel
theorem dX5_tellWords_26 : decode cX5_tellWords 26 = .ok (.if_icmp .ge 63, 3) := by decide +kernel
theorem dX5_tellWords_29 : decode cX5_tellWords 29 = .ok (.aload_n 3, 1) := by decide +kernel
theorem dX5_tellWords_30 : decode cX5_tellWords 30 = .ok (.iconst 1, 1) := by decide +kernel
theorem dX5_tellWords_31 : decode cX5_tellWords 31 = .ok (.iload 4, 2) := by decide +kernel
theorem dX5_tellWords_33 : decode cX5_tellWords 33 = .ok (.iconst 2, 1) := by decide +kernel
theorem dX5_tellWords_34 : decode cX5_tellWords 34 = .ok (.idiv, 1) := by decide +kernel
theorem dX5_tellWords_35 : decode cX5_tellWords 35 = .ok (.invokevirtual 46, 3) := by decide +kernel
theorem dX5_tellWords_38 : decode cX5_tellWords 38 = .ok (.istore 5, 2) := by decide +kernel
theorem dX5_tellWords_40 : decode cX5_tellWords 40 = .ok (.iload 4, 2) := by decide +kernel
theorem dX5_tellWords_42 : decode cX5_tellWords 42 = .ok (.iconst 2, 1) := by decide +kernel
theorem dX5_tellWords_43 : decode cX5_tellWords 43 = .ok (.irem, 1) := by decide +kernel
theorem dX5_tellWords_44 : decode cX5_tellWords 44 = .ok (.ifCond .ne 11, 3) := by decide +kernel
theorem dX5_tellWords_47 : decode cX5_tellWords 47 = .ok (.iload 5, 2) := by decide +kernel
theorem dX5_tellWords_49 : decode cX5_tellWords 49 = .ok (.bipush 16, 2) := by decide +kernel
theorem dX5_tellWords_51 : decode cX5_tellWords 51 = .ok (.iushr, 1) := by decide +kernel
theorem dX5_tellWords_52 : decode cX5_tellWords 52 = .ok (.goto 8, 3) := by decide +kernel
theorem dX5_tellWords_55 : decode cX5_tellWords 55 = .ok (.iload 5, 2) := by decide +kernel
theorem dX5_tellWords_57 : decode cX5_tellWords 57 = .ok (.ldc 31, 2) := by decide +kernel
theorem dX5_tellWords_59 : decode cX5_tellWords 59 = .ok (.iand, 1) := by decide +kernel
theorem dX5_tellWords_60 : decode cX5_tellWords 60 = .ok (.istore 6, 2) := by decide +kernel
theorem dX5_tellWords_62 : decode cX5_tellWords 62 = .ok (.aload_n 0, 1) := by decide +kernel
theorem dX5_tellWords_63 : decode cX5_tellWords 63 = .ok (.getfield 14, 3) := by decide +kernel
theorem dX5_tellWords_66 : decode cX5_tellWords 66 = .ok (.iload 6, 2) := by decide +kernel
theorem dX5_tellWords_68 : decode cX5_tellWords 68 = .ok (.bipush 8, 2) := by decide +kernel
theorem dX5_tellWords_70 : decode cX5_tellWords 70 = .ok (.ishr, 1) := by decide +kernel
theorem dX5_tellWords_71 : decode cX5_tellWords 71 = .ok (.invokevirtual 36, 3) := by decide +kernel
theorem dX5_tellWords_74 : decode cX5_tellWords 74 = .ok (.aload_n 0, 1) := by decide +kernel
theorem dX5_tellWords_75 : decode cX5_tellWords 75 = .ok (.getfield 14, 3) := by decide +kernel
theorem dX5_tellWords_78 : decode cX5_tellWords 78 = .ok (.iload 6, 2) := by decide +kernel
theorem dX5_tellWords_80 : decode cX5_tellWords 80 = .ok (.invokevirtual 36, 3) := by decide +kernel
theorem dX5_tellWords_83 : decode cX5_tellWords 83 = .ok (.iinc 4 1, 3) := by decide +kernel
theorem dX5_tellWords_86 : decode cX5_tellWords 86 = .ok (.goto (-65), 3) := by decide +kernel
theorem dX5_tellWords_89 : decode cX5_tellWords 89 = .ok (.return_, 1) := by decide +kernel
theorem dX6_init_0 : decode cX6_init 0 = .ok (.aload_n 0, 1) := by decide +kernel
theorem dX6_init_1 : decode cX6_init 1 = .ok (.invokespecial 3, 3) := by decide +kernel
theorem dX6_init_4 : decode cX6_init 4 = .ok (.return_, 1) := by decide +kernel
theorem dX6_readAll_0 : decode cX6_readAll 0 = .ok (.iconst 2, 1) := by decide +kernel
theorem dX6_readAll_1 : decode cX6_readAll 1 = .ok (.istore 4, 2) := by decide +kernel
theorem dX6_readAll_3 : decode cX6_readAll 3 = .ok (.iconst 0, 1) := by decide +kernel
theorem dX6_readAll_4 : decode cX6_readAll 4 = .ok (.istore 5, 2) := by decide +kernel
theorem dX6_readAll_6 : decode cX6_readAll 6 = .ok (.iload 5, 2) := by decide +kernel
theorem dX6_readAll_8 : decode cX6_readAll 8 = .ok (.bipush 60, 2) := by decide +kernel
theorem dX6_readAll_10 : decode cX6_readAll 10 = .ok (.if_icmp .ge 68, 3) := by decide +kernel
theorem dX6_readAll_13 : decode cX6_readAll 13 = .ok (.iload 4, 2) := by decide +kernel
theorem dX6_readAll_15 : decode cX6_readAll 15 = .ok (.aload_n 1, 1) := by decide +kernel
theorem dX6_readAll_16 : decode cX6_readAll 16 = .ok (.invokevirtual 9, 3) := by decide +kernel
theorem dX6_readAll_19 : decode cX6_readAll 19 = .ok (.if_icmp .ge 59, 3) := by decide +kernel
theorem dX6_readAll_22 : decode cX6_readAll 22 = .ok (.iload 4, 2) := by decide +kernel
theorem dX6_readAll_24 : decode cX6_readAll 24 = .ok (.iconst 3, 1) := by decide +kernel
theorem dX6_readAll_25 : decode cX6_readAll 25 = .ok (.iadd, 1) := by decide +kernel
theorem dX6_readAll_26 : decode cX6_readAll 26 = .ok (.aload_n 1, 1) := by decide +kernel
theorem dX6_readAll_27 : decode cX6_readAll 27 = .ok (.invokevirtual 9, 3) := by decide +kernel
theorem dX6_readAll_30 : decode cX6_readAll 30 = .ok (.if_icmp .le 5, 3) := by decide +kernel
theorem dX6_readAll_33 : decode cX6_readAll 33 = .ok (.iconst 4, 1) := by decide +kernel
theorem dX6_readAll_34 : decode cX6_readAll 34 = .ok (.ireturn, 1) := by decide +kernel
theorem dX6_readAll_35 : decode cX6_readAll 35 = .ok (.aload_n 0, 1) := by decide +kernel
theorem dX6_readAll_36 : decode cX6_readAll 36 = .ok (.aload_n 1, 1) := by decide +kernel
theorem dX6_readAll_37 : decode cX6_readAll 37 = .ok (.iload 4, 2) := by decide +kernel
theorem dX6_readAll_39 : decode cX6_readAll 39 = .ok (.aload_n 2, 1) := by decide +kernel
theorem dX6_readAll_40 : decode cX6_readAll 40 = .ok (.aload_n 3, 1) := by decide +kernel
theorem dX6_readAll_41 : decode cX6_readAll 41 = .ok (.invokevirtual 17, 3) := by decide +kernel
theorem dX6_readAll_44 : decode cX6_readAll 44 = .ok (.istore 6, 2) := by decide +kernel
theorem dX6_readAll_46 : decode cX6_readAll 46 = .ok (.iload 6, 2) := by decide +kernel
theorem dX6_readAll_48 : decode cX6_readAll 48 = .ok (.ifCond .eq 6, 3) := by decide +kernel
theorem dX6_readAll_51 : decode cX6_readAll 51 = .ok (.iload 6, 2) := by decide +kernel
theorem dX6_readAll_53 : decode cX6_readAll 53 = .ok (.ireturn, 1) := by decide +kernel
theorem dX6_readAll_54 : decode cX6_readAll 54 = .ok (.iload 4, 2) := by decide +kernel
theorem dX6_readAll_56 : decode cX6_readAll 56 = .ok (.iconst 3, 1) := by decide +kernel
theorem dX6_readAll_57 : decode cX6_readAll 57 = .ok (.aload_n 1, 1) := by decide +kernel
theorem dX6_readAll_58 : decode cX6_readAll 58 = .ok (.iload 4, 2) := by decide +kernel
theorem dX6_readAll_60 : decode cX6_readAll 60 = .ok (.iconst 2, 1) := by decide +kernel
theorem dX6_readAll_61 : decode cX6_readAll 61 = .ok (.iadd, 1) := by decide +kernel
theorem dX6_readAll_62 : decode cX6_readAll 62 = .ok (.invokevirtual 21, 3) := by decide +kernel
theorem dX6_readAll_65 : decode cX6_readAll 65 = .ok (.invokestatic 25, 3) := by decide +kernel
theorem dX6_readAll_68 : decode cX6_readAll 68 = .ok (.iadd, 1) := by decide +kernel
theorem dX6_readAll_69 : decode cX6_readAll 69 = .ok (.iadd, 1) := by decide +kernel
theorem dX6_readAll_70 : decode cX6_readAll 70 = .ok (.istore 4, 2) := by decide +kernel
theorem dX6_readAll_72 : decode cX6_readAll 72 = .ok (.iinc 5 1, 3) := by decide +kernel
theorem dX6_readAll_75 : decode cX6_readAll 75 = .ok (.goto (-69), 3) := by decide +kernel
theorem dX6_readAll_78 : decode cX6_readAll 78 = .ok (.iconst 0, 1) := by decide +kernel
theorem dX6_readAll_79 : decode cX6_readAll 79 = .ok (.ireturn, 1) := by decide +kernel
theorem dX6_readHeader_0 : decode cX6_readHeader 0 = .ok (.aload_n 1, 1) := by decide +kernel
theorem dX6_readHeader_1 : decode cX6_readHeader 1 = .ok (.iload_n 2, 1) := by decide +kernel
theorem dX6_readHeader_2 : decode cX6_readHeader 2 = .ok (.invokevirtual 21, 3) := by decide +kernel
theorem dX6_readHeader_5 : decode cX6_readHeader 5 = .ok (.istore 5, 2) := by decide +kernel
theorem dX6_readHeader_7 : decode cX6_readHeader 7 = .ok (.aload_n 1, 1) := by decide +kernel
theorem dX6_readHeader_8 : decode cX6_readHeader 8 = .ok (.iload_n 2, 1) := by decide +kernel
theorem dX6_readHeader_9 : decode cX6_readHeader 9 = .ok (.iconst 1, 1) := by decide +kernel
theorem dX6_readHeader_10 : decode cX6_readHeader 10 = .ok (.iadd, 1) := by decide +kernel
theorem dX6_readHeader_11 : decode cX6_readHeader 11 = .ok (.invokevirtual 21, 3) := by decide +kernel
theorem dX6_readHeader_14 : decode cX6_readHeader 14 = .ok (.istore 6, 2) := by decide +kernel
theorem dX6_readHeader_16 : decode cX6_readHeader 16 = .ok (.aload_n 1, 1) := by decide +kernel
theorem dX6_readHeader_17 : decode cX6_readHeader 17 = .ok (.iload_n 2, 1) := by decide +kernel
theorem dX6_readHeader_18 : decode cX6_readHeader 18 = .ok (.iconst 2, 1) := by decide +kernel
theorem dX6_readHeader_19 : decode cX6_readHeader 19 = .ok (.iadd, 1) := by decide +kernel
theorem dX6_readHeader_20 : decode cX6_readHeader 20 = .ok (.invokevirtual 21, 3) := by decide +kernel
theorem dX6_readHeader_23 : decode cX6_readHeader 23 = .ok (.istore 7, 2) := by decide +kernel
theorem dX6_readHeader_25 : decode cX6_readHeader 25 = .ok (.iload_n 2, 1) := by decide +kernel
theorem dX6_readHeader_26 : decode cX6_readHeader 26 = .ok (.iconst 3, 1) := by decide +kernel
theorem dX6_readHeader_27 : decode cX6_readHeader 27 = .ok (.iadd, 1) := by decide +kernel
theorem dX6_readHeader_28 : decode cX6_readHeader 28 = .ok (.iload 7, 2) := by decide +kernel
theorem dX6_readHeader_30 : decode cX6_readHeader 30 = .ok (.invokestatic 25, 3) := by decide +kernel
theorem dX6_readHeader_33 : decode cX6_readHeader 33 = .ok (.iadd, 1) := by decide +kernel
theorem dX6_readHeader_34 : decode cX6_readHeader 34 = .ok (.aload_n 1, 1) := by decide +kernel
theorem dX6_readHeader_35 : decode cX6_readHeader 35 = .ok (.invokevirtual 9, 3) := by decide +kernel
theorem dX6_readHeader_38 : decode cX6_readHeader 38 = .ok (.if_icmp .gt 7, 3) := by decide +kernel
theorem dX6_readHeader_41 : decode cX6_readHeader 41 = .ok (.iconst 1, 1) := by decide +kernel
theorem dX6_readHeader_42 : decode cX6_readHeader 42 = .ok (.goto 4, 3) := by decide +kernel
theorem dX6_readHeader_45 : decode cX6_readHeader 45 = .ok (.iconst 0, 1) := by decide +kernel
theorem dX6_readHeader_46 : decode cX6_readHeader 46 = .ok (.istore 8, 2) := by decide +kernel
theorem dX6_readHeader_48 : decode cX6_readHeader 48 = .ok (.iload 5, 2) := by decide +kernel
theorem dX6_readHeader_50 : decode cX6_readHeader 50 = .ok (.iload 6, 2) := by decide +kernel
theorem dX6_readHeader_52 : decode cX6_readHeader 52 = .ok (.invokestatic 28, 3) := by decide +kernel
theorem dX6_readHeader_55 : decode cX6_readHeader 55 = .ok (.istore 9, 2) := by decide +kernel
theorem dX6_readHeader_57 : decode cX6_readHeader 57 = .ok (.iload 9, 2) := by decide +kernel
theorem dX6_readHeader_59 : decode cX6_readHeader 59 = .ok (.ifCond .lt 79, 3) := by decide +kernel
theorem dX6_readHeader_62 : decode cX6_readHeader 62 = .ok (.iload 7, 2) := by decide +kernel
theorem dX6_readHeader_64 : decode cX6_readHeader 64 = .ok (.ifCond .eq 10, 3) := by decide +kernel
theorem dX6_readHeader_67 : decode cX6_readHeader 67 = .ok (.iload 7, 2) := by decide +kernel
theorem dX6_readHeader_69 : decode cX6_readHeader 69 = .ok (.bipush 6, 2) := by decide +kernel
theorem dX6_readHeader_71 : decode cX6_readHeader 71 = .ok (.if_icmp .ne 67, 3) := by decide +kernel
theorem dX6_readHeader_74 : decode cX6_readHeader 74 = .ok (.iload 7, 2) := by decide +kernel
theorem dX6_readHeader_76 : decode cX6_readHeader 76 = .ok (.bipush 6, 2) := by decide +kernel
theorem dX6_readHeader_78 : decode cX6_readHeader 78 = .ok (.if_icmp .ne 7, 3) := by decide +kernel
theorem dX6_readHeader_81 : decode cX6_readHeader 81 = .ok (.iconst 0, 1) := by decide +kernel
theorem dX6_readHeader_82 : decode cX6_readHeader 82 = .ok (.goto 10, 3) := by decide +kernel
theorem dX6_readHeader_85 : decode cX6_readHeader 85 = .ok (.aload_n 1, 1) := by decide +kernel
theorem dX6_readHeader_86 : decode cX6_readHeader 86 = .ok (.iload_n 2, 1) := by decide +kernel
theorem dX6_readHeader_87 : decode cX6_readHeader 87 = .ok (.iconst 3, 1) := by decide +kernel
theorem dX6_readHeader_88 : decode cX6_readHeader 88 = .ok (.iadd, 1) := by decide +kernel
theorem dX6_readHeader_89 : decode cX6_readHeader 89 = .ok (.invokevirtual 21, 3) := by decide +kernel
theorem dX6_readHeader_92 : decode cX6_readHeader 92 = .ok (.istore 10, 2) := by decide +kernel
theorem dX6_readHeader_94 : decode cX6_readHeader 94 = .ok (.iload 7, 2) := by decide +kernel
theorem dX6_readHeader_96 : decode cX6_readHeader 96 = .ok (.bipush 6, 2) := by decide +kernel
theorem dX6_readHeader_98 : decode cX6_readHeader 98 = .ok (.if_icmp .ne 8, 3) := by decide +kernel
theorem dX6_readHeader_101 : decode cX6_readHeader 101 = .ok (.bipush 7, 2) := by decide +kernel
theorem dX6_readHeader_103 : decode cX6_readHeader 103 = .ok (.goto 10, 3) := by decide +kernel
theorem dX6_readHeader_106 : decode cX6_readHeader 106 = .ok (.aload_n 1, 1) := by decide +kernel
theorem dX6_readHeader_107 : decode cX6_readHeader 107 = .ok (.iload_n 2, 1) := by decide +kernel
theorem dX6_readHeader_108 : decode cX6_readHeader 108 = .ok (.iconst 4, 1) := by decide +kernel
theorem dX6_readHeader_109 : decode cX6_readHeader 109 = .ok (.iadd, 1) := by decide +kernel
theorem dX6_readHeader_110 : decode cX6_readHeader 110 = .ok (.invokevirtual 21, 3) := by decide +kernel
theorem dX6_readHeader_113 : decode cX6_readHeader 113 = .ok (.istore 11, 2) := by decide +kernel
theorem dX6_readHeader_115 : decode cX6_readHeader 115 = .ok (.iload 8, 2) := by decide +kernel
theorem dX6_readHeader_117 : decode cX6_readHeader 117 = .ok (.ifCond .eq 19, 3) := by decide +kernel
theorem dX6_readHeader_120 : decode cX6_readHeader 120 = .ok (.aload_n 0, 1) := by decide +kernel
theorem dX6_readHeader_121 : decode cX6_readHeader 121 = .ok (.iload 9, 2) := by decide +kernel
theorem dX6_readHeader_123 : decode cX6_readHeader 123 = .ok (.iload 10, 2) := by decide +kernel
theorem dX6_readHeader_125 : decode cX6_readHeader 125 = .ok (.iload 11, 2) := by decide +kernel
theorem dX6_readHeader_127 : decode cX6_readHeader 127 = .ok (.aload_n 3, 1) := by decide +kernel
theorem dX6_readHeader_128 : decode cX6_readHeader 128 = .ok (.aload 4, 2) := by decide +kernel
theorem dX6_readHeader_130 : decode cX6_readHeader 130 = .ok (.invokevirtual 32, 3) := by decide +kernel
theorem dX6_readHeader_133 : decode cX6_readHeader 133 = .ok (.goto 4, 3) := by decide +kernel
theorem dX6_readHeader_136 : decode cX6_readHeader 136 = .ok (.iconst 4, 1) := by decide +kernel
theorem dX6_readHeader_137 : decode cX6_readHeader 137 = .ok (.ireturn, 1) := by decide +kernel
theorem dX6_readHeader_138 : decode cX6_readHeader 138 = .ok (.iload 5, 2) := by decide +kernel
theorem dX6_readHeader_140 : decode cX6_readHeader 140 = .ok (.bipush 60, 2) := by decide +kernel
theorem dX6_readHeader_142 : decode cX6_readHeader 142 = .ok (.if_icmp .ne 63, 3) := by decide +kernel
theorem dX6_readHeader_145 : decode cX6_readHeader 145 = .ok (.iload 6, 2) := by decide +kernel
theorem dX6_readHeader_147 : decode cX6_readHeader 147 = .ok (.iconst 1, 1) := by decide +kernel
theorem dX6_readHeader_148 : decode cX6_readHeader 148 = .ok (.if_icmp .ne 57, 3) := by decide +kernel
theorem dX6_readHeader_151 : decode cX6_readHeader 151 = .ok (.iload 7, 2) := by decide +kernel
theorem dX6_readHeader_153 : decode cX6_readHeader 153 = .ok (.bipush 6, 2) := by decide +kernel
theorem dX6_readHeader_155 : decode cX6_readHeader 155 = .ok (.if_icmp .ne 50, 3) := by decide +kernel
theorem dX6_readHeader_158 : decode cX6_readHeader 158 = .ok (.iconst 0, 1) := by decide +kernel
theorem dX6_readHeader_159 : decode cX6_readHeader 159 = .ok (.bipush 8, 2) := by decide +kernel
theorem dX6_readHeader_161 : decode cX6_readHeader 161 = .ok (.invokestatic 36, 3) := by decide +kernel
theorem dX6_readHeader_164 : decode cX6_readHeader 164 = .ok (.iconst 1, 1) := by decide +kernel
theorem dX6_readHeader_165 : decode cX6_readHeader 165 = .ok (.bipush 8, 2) := by decide +kernel
theorem dX6_readHeader_167 : decode cX6_readHeader 167 = .ok (.invokestatic 36, 3) := by decide +kernel
theorem dX6_readHeader_170 : decode cX6_readHeader 170 = .ok (.iadd, 1) := by decide +kernel
theorem dX6_readHeader_171 : decode cX6_readHeader 171 = .ok (.aload 4, 2) := by decide +kernel
theorem dX6_readHeader_173 : decode cX6_readHeader 173 = .ok (.invokevirtual 39, 3) := by decide +kernel
theorem dX6_readHeader_176 : decode cX6_readHeader 176 = .ok (.if_icmp .le 5, 3) := by decide +kernel
theorem dX6_readHeader_179 : decode cX6_readHeader 179 = .ok (.iconst 4, 1) := by decide +kernel
theorem dX6_readHeader_180 : decode cX6_readHeader 180 = .ok (.ireturn, 1) := by decide +kernel
theorem dX6_readHeader_181 : decode cX6_readHeader 181 = .ok (.aload_n 0, 1) := by decide +kernel
theorem dX6_readHeader_182 : decode cX6_readHeader 182 = .ok (.iconst 0, 1) := by decide +kernel
theorem dX6_readHeader_183 : decode cX6_readHeader 183 = .ok (.iconst 0, 1) := by decide +kernel
theorem dX6_readHeader_184 : decode cX6_readHeader 184 = .ok (.bipush 7, 2) := by decide +kernel
theorem dX6_readHeader_186 : decode cX6_readHeader 186 = .ok (.aload_n 3, 1) := by decide +kernel
theorem dX6_readHeader_187 : decode cX6_readHeader 187 = .ok (.aload 4, 2) := by decide +kernel
theorem dX6_readHeader_189 : decode cX6_readHeader 189 = .ok (.invokevirtual 32, 3) := by decide +kernel
theorem dX6_readHeader_192 : decode cX6_readHeader 192 = .ok (.pop, 1) := by decide +kernel
theorem dX6_readHeader_193 : decode cX6_readHeader 193 = .ok (.aload_n 0, 1) := by decide +kernel
theorem dX6_readHeader_194 : decode cX6_readHeader 194 = .ok (.iconst 1, 1) := by decide +kernel
theorem dX6_readHeader_195 : decode cX6_readHeader 195 = .ok (.iconst 0, 1) := by decide +kernel
theorem dX6_readHeader_196 : decode cX6_readHeader 196 = .ok (.bipush 7, 2) := by decide +kernel
theorem dX6_readHeader_198 : decode cX6_readHeader 198 = .ok (.aload_n 3, 1) := by decide +kernel
theorem dX6_readHeader_199 : decode cX6_readHeader 199 = .ok (.aload 4, 2) := by decide +kernel
theorem dX6_readHeader_201 : decode cX6_readHeader 201 = .ok (.invokevirtual 32, 3) := by decide +kernel
theorem dX6_readHeader_204 : decode cX6_readHeader 204 = .ok (.ireturn, 1) := by decide +kernel
theorem dX6_readHeader_205 : decode cX6_readHeader 205 = .ok (.iload 5, 2) := by decide +kernel
theorem dX6_readHeader_207 : decode cX6_readHeader 207 = .ok (.iload 6, 2) := by decide +kernel
theorem dX6_readHeader_209 : decode cX6_readHeader 209 = .ok (.invokestatic 42, 3) := by decide +kernel
theorem dX6_readHeader_212 : decode cX6_readHeader 212 = .ok (.istore 9, 2) := by decide +kernel
theorem dX6_readHeader_214 : decode cX6_readHeader 214 = .ok (.iload 9, 2) := by decide +kernel
theorem dX6_readHeader_216 : decode cX6_readHeader 216 = .ok (.ifCond .lt 59, 3) := by decide +kernel
theorem dX6_readHeader_219 : decode cX6_readHeader 219 = .ok (.iload 7, 2) := by decide +kernel
theorem dX6_readHeader_221 : decode cX6_readHeader 221 = .ok (.bipush 7, 2) := by decide +kernel
theorem dX6_readHeader_223 : decode cX6_readHeader 223 = .ok (.if_icmp .eq 10, 3) := by decide +kernel
theorem dX6_readHeader_226 : decode cX6_readHeader 226 = .ok (.iload 7, 2) := by decide +kernel
theorem dX6_readHeader_228 : decode cX6_readHeader 228 = .ok (.bipush 6, 2) := by decide +kernel
theorem dX6_readHeader_230 : decode cX6_readHeader 230 = .ok (.if_icmp .ne 45, 3) := by decide +kernel
theorem dX6_readHeader_233 : decode cX6_readHeader 233 = .ok (.iload 7, 2) := by decide +kernel
theorem dX6_readHeader_235 : decode cX6_readHeader 235 = .ok (.bipush 6, 2) := by decide +kernel
theorem dX6_readHeader_237 : decode cX6_readHeader 237 = .ok (.if_icmp .ne 8, 3) := by decide +kernel
theorem dX6_readHeader_240 : decode cX6_readHeader 240 = .ok (.bipush 6, 2) := by decide +kernel
theorem dX6_readHeader_242 : decode cX6_readHeader 242 = .ok (.goto 10, 3) := by decide +kernel
theorem dX6_readHeader_245 : decode cX6_readHeader 245 = .ok (.aload_n 1, 1) := by decide +kernel
theorem dX6_readHeader_246 : decode cX6_readHeader 246 = .ok (.iload_n 2, 1) := by decide +kernel
theorem dX6_readHeader_247 : decode cX6_readHeader 247 = .ok (.iconst 3, 1) := by decide +kernel
theorem dX6_readHeader_248 : decode cX6_readHeader 248 = .ok (.iadd, 1) := by decide +kernel
theorem dX6_readHeader_249 : decode cX6_readHeader 249 = .ok (.invokevirtual 21, 3) := by decide +kernel
theorem dX6_readHeader_252 : decode cX6_readHeader 252 = .ok (.istore 10, 2) := by decide +kernel
theorem dX6_readHeader_254 : decode cX6_readHeader 254 = .ok (.iload 8, 2) := by decide +kernel
theorem dX6_readHeader_256 : decode cX6_readHeader 256 = .ok (.ifCond .eq 17, 3) := by decide +kernel
theorem dX6_readHeader_259 : decode cX6_readHeader 259 = .ok (.aload_n 0, 1) := by decide +kernel
theorem dX6_readHeader_260 : decode cX6_readHeader 260 = .ok (.iload 9, 2) := by decide +kernel
theorem dX6_readHeader_262 : decode cX6_readHeader 262 = .ok (.iload 10, 2) := by decide +kernel
theorem dX6_readHeader_264 : decode cX6_readHeader 264 = .ok (.aload_n 3, 1) := by decide +kernel
theorem dX6_readHeader_265 : decode cX6_readHeader 265 = .ok (.aload 4, 2) := by decide +kernel
theorem dX6_readHeader_267 : decode cX6_readHeader 267 = .ok (.invokevirtual 45, 3) := by decide +kernel
theorem dX6_readHeader_270 : decode cX6_readHeader 270 = .ok (.goto 4, 3) := by decide +kernel
theorem dX6_readHeader_273 : decode cX6_readHeader 273 = .ok (.iconst 4, 1) := by decide +kernel
theorem dX6_readHeader_274 : decode cX6_readHeader 274 = .ok (.ireturn, 1) := by decide +kernel
theorem dX6_readHeader_275 : decode cX6_readHeader 275 = .ok (.iconst 2, 1) := by decide +kernel
theorem dX6_readHeader_276 : decode cX6_readHeader 276 = .ok (.ireturn, 1) := by decide +kernel
theorem dX6_bytesBehind_0 : decode cX6_bytesBehind 0 = .ok (.iload_n 0, 1) := by decide +kernel
theorem dX6_bytesBehind_1 : decode cX6_bytesBehind 1 = .ok (.ifCond .ne 5, 3) := by decide +kernel
theorem dX6_bytesBehind_4 : decode cX6_bytesBehind 4 = .ok (.iconst 2, 1) := by decide +kernel
theorem dX6_bytesBehind_5 : decode cX6_bytesBehind 5 = .ok (.ireturn, 1) := by decide +kernel
theorem dX6_bytesBehind_6 : decode cX6_bytesBehind 6 = .ok (.iload_n 0, 1) := by decide +kernel
theorem dX6_bytesBehind_7 : decode cX6_bytesBehind 7 = .ok (.bipush 7, 2) := by decide +kernel
theorem dX6_bytesBehind_9 : decode cX6_bytesBehind 9 = .ok (.if_icmp .ne 7, 3) := by decide +kernel
theorem dX6_bytesBehind_12 : decode cX6_bytesBehind 12 = .ok (.iconst 1, 1) := by decide +kernel
theorem dX6_bytesBehind_13 : decode cX6_bytesBehind 13 = .ok (.goto 4, 3) := by decide +kernel
theorem dX6_bytesBehind_16 : decode cX6_bytesBehind 16 = .ok (.iconst 0, 1) := by decide +kernel
theorem dX6_bytesBehind_17 : decode cX6_bytesBehind 17 = .ok (.ireturn, 1) := by decide +kernel
theorem dX6_kindOfPoints_0 : decode cX6_kindOfPoints 0 = .ok (.iload_n 0, 1) := by decide +kernel
theorem dX6_kindOfPoints_1 : decode cX6_kindOfPoints 1 = .ok (.iconst 1, 1) := by decide +kernel
theorem dX6_kindOfPoints_2 : decode cX6_kindOfPoints 2 = .ok (.if_icmp .ne 10, 3) := by decide +kernel
theorem dX6_kindOfPoints_5 : decode cX6_kindOfPoints 5 = .ok (.iload_n 1, 1) := by decide +kernel
theorem dX6_kindOfPoints_6 : decode cX6_kindOfPoints 6 = .ok (.iconst 2, 1) := by decide +kernel
theorem dX6_kindOfPoints_7 : decode cX6_kindOfPoints 7 = .ok (.if_icmp .ne 5, 3) := by decide +kernel
theorem dX6_kindOfPoints_10 : decode cX6_kindOfPoints 10 = .ok (.iconst 0, 1) := by decide +kernel
theorem dX6_kindOfPoints_11 : decode cX6_kindOfPoints 11 = .ok (.ireturn, 1) := by decide +kernel
theorem dX6_kindOfPoints_12 : decode cX6_kindOfPoints 12 = .ok (.iload_n 0, 1) := by decide +kernel
theorem dX6_kindOfPoints_13 : decode cX6_kindOfPoints 13 = .ok (.bipush 30, 2) := by decide +kernel
theorem dX6_kindOfPoints_15 : decode cX6_kindOfPoints 15 = .ok (.if_icmp .ne 12, 3) := by decide +kernel
theorem dX6_kindOfPoints_18 : decode cX6_kindOfPoints 18 = .ok (.iload_n 1, 1) := by decide +kernel
theorem dX6_kindOfPoints_19 : decode cX6_kindOfPoints 19 = .ok (.iconst 1, 1) := by decide +kernel
theorem dX6_kindOfPoints_20 : decode cX6_kindOfPoints 20 = .ok (.if_icmp .ne 7, 3) := by decide +kernel
theorem dX6_kindOfPoints_23 : decode cX6_kindOfPoints 23 = .ok (.iconst 1, 1) := by decide +kernel
theorem dX6_kindOfPoints_24 : decode cX6_kindOfPoints 24 = .ok (.goto 4, 3) := by decide +kernel
theorem dX6_kindOfPoints_27 : decode cX6_kindOfPoints 27 = .ok (.iconst (-1), 1) := by decide +kernel
theorem dX6_kindOfPoints_28 : decode cX6_kindOfPoints 28 = .ok (.ireturn, 1) := by decide +kernel
theorem dX6_kindOfEvents_0 : decode cX6_kindOfEvents 0 = .ok (.iload_n 0, 1) := by decide +kernel
theorem dX6_kindOfEvents_1 : decode cX6_kindOfEvents 1 = .ok (.bipush 60, 2) := by decide +kernel
theorem dX6_kindOfEvents_3 : decode cX6_kindOfEvents 3 = .ok (.if_icmp .eq 5, 3) := by decide +kernel
theorem dX6_kindOfEvents_6 : decode cX6_kindOfEvents 6 = .ok (.iconst (-1), 1) := by decide +kernel
theorem dX6_kindOfEvents_7 : decode cX6_kindOfEvents 7 = .ok (.ireturn, 1) := by decide +kernel
theorem dX6_kindOfEvents_8 : decode cX6_kindOfEvents 8 = .ok (.iload_n 1, 1) := by decide +kernel
theorem dX6_kindOfEvents_9 : decode cX6_kindOfEvents 9 = .ok (.iconst 2, 1) := by decide +kernel
theorem dX6_kindOfEvents_10 : decode cX6_kindOfEvents 10 = .ok (.if_icmp .ne 5, 3) := by decide +kernel
theorem dX6_kindOfEvents_13 : decode cX6_kindOfEvents 13 = .ok (.iconst 0, 1) := by decide +kernel
theorem dX6_kindOfEvents_14 : decode cX6_kindOfEvents 14 = .ok (.ireturn, 1) := by decide +kernel
theorem dX6_kindOfEvents_15 : decode cX6_kindOfEvents 15 = .ok (.iload_n 1, 1) := by decide +kernel
theorem dX6_kindOfEvents_16 : decode cX6_kindOfEvents 16 = .ok (.iconst 3, 1) := by decide +kernel
theorem dX6_kindOfEvents_17 : decode cX6_kindOfEvents 17 = .ok (.if_icmp .ne 7, 3) := by decide +kernel
theorem dX6_kindOfEvents_20 : decode cX6_kindOfEvents 20 = .ok (.iconst 1, 1) := by decide +kernel
theorem dX6_kindOfEvents_21 : decode cX6_kindOfEvents 21 = .ok (.goto 4, 3) := by decide +kernel
theorem dX6_kindOfEvents_24 : decode cX6_kindOfEvents 24 = .ok (.iconst (-1), 1) := by decide +kernel
theorem dX6_kindOfEvents_25 : decode cX6_kindOfEvents 25 = .ok (.ireturn, 1) := by decide +kernel
theorem dX6_lengthOfPoints_0 : decode cX6_lengthOfPoints 0 = .ok (.iconst 5, 1) := by decide +kernel
theorem dX6_lengthOfPoints_1 : decode cX6_lengthOfPoints 1 = .ok (.iload_n 1, 1) := by decide +kernel
theorem dX6_lengthOfPoints_2 : decode cX6_lengthOfPoints 2 = .ok (.iload_n 0, 1) := by decide +kernel
theorem dX6_lengthOfPoints_3 : decode cX6_lengthOfPoints 3 = .ok (.ifCond .ne 7, 3) := by decide +kernel
theorem dX6_lengthOfPoints_6 : decode cX6_lengthOfPoints 6 = .ok (.iconst 1, 1) := by decide +kernel
theorem dX6_lengthOfPoints_7 : decode cX6_lengthOfPoints 7 = .ok (.goto 4, 3) := by decide +kernel
theorem dX6_lengthOfPoints_10 : decode cX6_lengthOfPoints 10 = .ok (.iconst 5, 1) := by decide +kernel
theorem dX6_lengthOfPoints_11 : decode cX6_lengthOfPoints 11 = .ok (.imul, 1) := by decide +kernel
theorem dX6_lengthOfPoints_12 : decode cX6_lengthOfPoints 12 = .ok (.iadd, 1) := by decide +kernel
theorem dX6_lengthOfPoints_13 : decode cX6_lengthOfPoints 13 = .ok (.ireturn, 1) := by decide +kernel
theorem dX6_givePoints_0 : decode cX6_givePoints 0 = .ok (.iload_n 3, 1) := by decide +kernel
theorem dX6_givePoints_1 : decode cX6_givePoints 1 = .ok (.iload_n 2, 1) := by decide +kernel
theorem dX6_givePoints_2 : decode cX6_givePoints 2 = .ok (.if_icmp .lt 26, 3) := by decide +kernel
theorem dX6_givePoints_5 : decode cX6_givePoints 5 = .ok (.iload_n 3, 1) := by decide +kernel
theorem dX6_givePoints_6 : decode cX6_givePoints 6 = .ok (.bipush 8, 2) := by decide +kernel
theorem dX6_givePoints_8 : decode cX6_givePoints 8 = .ok (.if_icmp .ge 20, 3) := by decide +kernel
theorem dX6_givePoints_11 : decode cX6_givePoints 11 = .ok (.iload_n 1, 1) := by decide +kernel
theorem dX6_givePoints_12 : decode cX6_givePoints 12 = .ok (.iload_n 3, 1) := by decide +kernel
theorem dX6_givePoints_13 : decode cX6_givePoints 13 = .ok (.iload_n 2, 1) := by decide +kernel
theorem dX6_givePoints_14 : decode cX6_givePoints 14 = .ok (.isub, 1) := by decide +kernel
theorem dX6_givePoints_15 : decode cX6_givePoints 15 = .ok (.iconst 1, 1) := by decide +kernel
theorem dX6_givePoints_16 : decode cX6_givePoints 16 = .ok (.iadd, 1) := by decide +kernel
theorem dX6_givePoints_17 : decode cX6_givePoints 17 = .ok (.invokestatic 36, 3) := by decide +kernel
theorem dX6_givePoints_20 : decode cX6_givePoints 20 = .ok (.aload 5, 2) := by decide +kernel
theorem dX6_givePoints_22 : decode cX6_givePoints 22 = .ok (.invokevirtual 39, 3) := by decide +kernel
theorem dX6_givePoints_25 : decode cX6_givePoints 25 = .ok (.if_icmp .le 5, 3) := by decide +kernel
theorem dX6_givePoints_28 : decode cX6_givePoints 28 = .ok (.iconst 4, 1) := by decide +kernel
theorem dX6_givePoints_29 : decode cX6_givePoints 29 = .ok (.ireturn, 1) := by decide +kernel
theorem dX6_givePoints_30 : decode cX6_givePoints 30 = .ok (.aload 5, 2) := by decide +kernel
theorem dX6_givePoints_32 : decode cX6_givePoints 32 = .ok (.iload_n 1, 1) := by decide +kernel
theorem dX6_givePoints_33 : decode cX6_givePoints 33 = .ok (.ifCond .ne 7, 3) := by decide +kernel
theorem dX6_givePoints_36 : decode cX6_givePoints 36 = .ok (.iconst 1, 1) := by decide +kernel
theorem dX6_givePoints_37 : decode cX6_givePoints 37 = .ok (.goto 5, 3) := by decide +kernel
theorem dX6_givePoints_40 : decode cX6_givePoints 40 = .ok (.bipush 30, 2) := by decide +kernel
theorem dX6_givePoints_42 : decode cX6_givePoints 42 = .ok (.invokevirtual 49, 3) := by decide +kernel
theorem dX6_givePoints_45 : decode cX6_givePoints 45 = .ok (.aload 5, 2) := by decide +kernel
theorem dX6_givePoints_47 : decode cX6_givePoints 47 = .ok (.iload_n 1, 1) := by decide +kernel
theorem dX6_givePoints_48 : decode cX6_givePoints 48 = .ok (.ifCond .ne 7, 3) := by decide +kernel
theorem dX6_givePoints_51 : decode cX6_givePoints 51 = .ok (.iconst 2, 1) := by decide +kernel
theorem dX6_givePoints_52 : decode cX6_givePoints 52 = .ok (.goto 4, 3) := by decide +kernel
theorem dX6_givePoints_55 : decode cX6_givePoints 55 = .ok (.iconst 1, 1) := by decide +kernel
theorem dX6_givePoints_56 : decode cX6_givePoints 56 = .ok (.invokevirtual 49, 3) := by decide +kernel
theorem dX6_givePoints_59 : decode cX6_givePoints 59 = .ok (.aload 5, 2) := by decide +kernel
theorem dX6_givePoints_61 : decode cX6_givePoints 61 = .ok (.iconst 0, 1) := by decide +kernel
theorem dX6_givePoints_62 : decode cX6_givePoints 62 = .ok (.invokevirtual 49, 3) := by decide +kernel
theorem dX6_givePoints_65 : decode cX6_givePoints 65 = .ok (.aload 5, 2) := by decide +kernel
theorem dX6_givePoints_67 : decode cX6_givePoints 67 = .ok (.iload_n 2, 1) := by decide +kernel
theorem dX6_givePoints_68 : decode cX6_givePoints 68 = .ok (.invokevirtual 49, 3) := by decide +kernel
theorem dX6_givePoints_71 : decode cX6_givePoints 71 = .ok (.aload 5, 2) := by decide +kernel
theorem dX6_givePoints_73 : decode cX6_givePoints 73 = .ok (.iload_n 3, 1) := by decide +kernel
theorem dX6_givePoints_74 : decode cX6_givePoints 74 = .ok (.invokevirtual 49, 3) := by decide +kernel
theorem dX6_givePoints_77 : decode cX6_givePoints 77 = .ok (.iload_n 2, 1) := by decide +kernel
theorem dX6_givePoints_78 : decode cX6_givePoints 78 = .ok (.istore 6, 2) := by decide +kernel
theorem dX6_givePoints_80 : decode cX6_givePoints 80 = .ok (.iload 6, 2) := by decide +kernel
theorem dX6_givePoints_82 : decode cX6_givePoints 82 = .ok (.iload_n 3, 1) := by decide +kernel
theorem dX6_givePoints_83 : decode cX6_givePoints 83 = .ok (.if_icmp .gt 23, 3) := by decide +kernel
theorem dX6_givePoints_86 : decode cX6_givePoints 86 = .ok (.aload 5, 2) := by decide +kernel
theorem dX6_givePoints_88 : decode cX6_givePoints 88 = .ok (.iload_n 1, 1) := by decide +kernel
theorem dX6_givePoints_89 : decode cX6_givePoints 89 = .ok (.aload 4, 2) := by decide +kernel
theorem dX6_givePoints_91 : decode cX6_givePoints 91 = .ok (.iload_n 1, 1) := by decide +kernel
theorem dX6_givePoints_92 : decode cX6_givePoints 92 = .ok (.iload 6, 2) := by decide +kernel
theorem dX6_givePoints_94 : decode cX6_givePoints 94 = .ok (.invokevirtual 53, 3) := by decide +kernel
theorem dX6_givePoints_97 : decode cX6_givePoints 97 = .ok (.invokevirtual 58, 3) := by decide +kernel
theorem dX6_givePoints_100 : decode cX6_givePoints 100 = .ok (.iinc 6 1, 3) := by decide +kernel
theorem dX6_givePoints_103 : decode cX6_givePoints 103 = .ok (.goto (-23), 3) := by decide +kernel
theorem dX6_givePoints_106 : decode cX6_givePoints 106 = .ok (.iconst 0, 1) := by decide +kernel
theorem dX6_givePoints_107 : decode cX6_givePoints 107 = .ok (.ireturn, 1) := by decide +kernel
theorem dX6_giveEvents_0 : decode cX6_giveEvents 0 = .ok (.aload_n 3, 1) := by decide +kernel
theorem dX6_giveEvents_1 : decode cX6_giveEvents 1 = .ok (.iload_n 1, 1) := by decide +kernel
theorem dX6_giveEvents_2 : decode cX6_giveEvents 2 = .ok (.invokevirtual 62, 3) := by decide +kernel
theorem dX6_giveEvents_5 : decode cX6_giveEvents 5 = .ok (.astore 5, 2) := by decide +kernel
theorem dX6_giveEvents_7 : decode cX6_giveEvents 7 = .ok (.aload 5, 2) := by decide +kernel
theorem dX6_giveEvents_9 : decode cX6_giveEvents 9 = .ok (.invokevirtual 66, 3) := by decide +kernel
theorem dX6_giveEvents_12 : decode cX6_giveEvents 12 = .ok (.istore 6, 2) := by decide +kernel
theorem dX6_giveEvents_14 : decode cX6_giveEvents 14 = .ok (.iload_n 1, 1) := by decide +kernel
theorem dX6_giveEvents_15 : decode cX6_giveEvents 15 = .ok (.ifCond .ne 7, 3) := by decide +kernel
theorem dX6_giveEvents_18 : decode cX6_giveEvents 18 = .ok (.iconst 2, 1) := by decide +kernel
theorem dX6_giveEvents_19 : decode cX6_giveEvents 19 = .ok (.goto 5, 3) := by decide +kernel
theorem dX6_giveEvents_22 : decode cX6_giveEvents 22 = .ok (.bipush 6, 2) := by decide +kernel
theorem dX6_giveEvents_24 : decode cX6_giveEvents 24 = .ok (.istore 7, 2) := by decide +kernel
theorem dX6_giveEvents_26 : decode cX6_giveEvents 26 = .ok (.aload 4, 2) := by decide +kernel
theorem dX6_giveEvents_28 : decode cX6_giveEvents 28 = .ok (.invokevirtual 39, 3) := by decide +kernel
theorem dX6_giveEvents_31 : decode cX6_giveEvents 31 = .ok (.iconst 4, 1) := by decide +kernel
theorem dX6_giveEvents_32 : decode cX6_giveEvents 32 = .ok (.isub, 1) := by decide +kernel
theorem dX6_giveEvents_33 : decode cX6_giveEvents 33 = .ok (.iconst 0, 1) := by decide +kernel
theorem dX6_giveEvents_34 : decode cX6_giveEvents 34 = .ok (.invokestatic 71, 3) := by decide +kernel
theorem dX6_giveEvents_37 : decode cX6_giveEvents 37 = .ok (.iload 7, 2) := by decide +kernel
theorem dX6_giveEvents_39 : decode cX6_giveEvents 39 = .ok (.idiv, 1) := by decide +kernel
theorem dX6_giveEvents_40 : decode cX6_giveEvents 40 = .ok (.istore 8, 2) := by decide +kernel
theorem dX6_giveEvents_42 : decode cX6_giveEvents 42 = .ok (.iload_n 2, 1) := by decide +kernel
theorem dX6_giveEvents_43 : decode cX6_giveEvents 43 = .ok (.aload 5, 2) := by decide +kernel
theorem dX6_giveEvents_45 : decode cX6_giveEvents 45 = .ok (.invokevirtual 76, 3) := by decide +kernel
theorem dX6_giveEvents_48 : decode cX6_giveEvents 48 = .ok (.iload 6, 2) := by decide +kernel
theorem dX6_giveEvents_50 : decode cX6_giveEvents 50 = .ok (.isub, 1) := by decide +kernel
theorem dX6_giveEvents_51 : decode cX6_giveEvents 51 = .ok (.invokestatic 79, 3) := by decide +kernel
theorem dX6_giveEvents_54 : decode cX6_giveEvents 54 = .ok (.iload 8, 2) := by decide +kernel
theorem dX6_giveEvents_56 : decode cX6_giveEvents 56 = .ok (.invokestatic 79, 3) := by decide +kernel
theorem dX6_giveEvents_59 : decode cX6_giveEvents 59 = .ok (.istore 9, 2) := by decide +kernel
theorem dX6_giveEvents_61 : decode cX6_giveEvents 61 = .ok (.iload 9, 2) := by decide +kernel
theorem dX6_giveEvents_63 : decode cX6_giveEvents 63 = .ok (.ifCond .gt 5, 3) := by decide +kernel
theorem dX6_giveEvents_66 : decode cX6_giveEvents 66 = .ok (.iconst 0, 1) := by decide +kernel
theorem dX6_giveEvents_67 : decode cX6_giveEvents 67 = .ok (.ireturn, 1) := by decide +kernel
theorem dX6_giveEvents_68 : decode cX6_giveEvents 68 = .ok (.aload 4, 2) := by decide +kernel
theorem dX6_giveEvents_70 : decode cX6_giveEvents 70 = .ok (.iload_n 1, 1) := by decide +kernel
theorem dX6_giveEvents_71 : decode cX6_giveEvents 71 = .ok (.ifCond .ne 7, 3) := by decide +kernel
theorem dX6_giveEvents_74 : decode cX6_giveEvents 74 = .ok (.iconst 2, 1) := by decide +kernel
theorem dX6_giveEvents_75 : decode cX6_giveEvents 75 = .ok (.goto 5, 3) := by decide +kernel
theorem dX6_giveEvents_78 : decode cX6_giveEvents 78 = .ok (.bipush 32, 2) := by decide +kernel
theorem dX6_giveEvents_80 : decode cX6_giveEvents 80 = .ok (.invokevirtual 49, 3) := by decide +kernel
theorem dX6_giveEvents_83 : decode cX6_giveEvents 83 = .ok (.aload 4, 2) := by decide +kernel
theorem dX6_giveEvents_85 : decode cX6_giveEvents 85 = .ok (.iconst 1, 1) := by decide +kernel
theorem dX6_giveEvents_86 : decode cX6_giveEvents 86 = .ok (.invokevirtual 49, 3) := by decide +kernel
theorem dX6_giveEvents_89 : decode cX6_giveEvents 89 = .ok (.aload 4, 2) := by decide +kernel
theorem dX6_giveEvents_91 : decode cX6_giveEvents 91 = .ok (.bipush 23, 2) := by decide +kernel
theorem dX6_giveEvents_93 : decode cX6_giveEvents 93 = .ok (.invokevirtual 49, 3) := by decide +kernel
theorem dX6_giveEvents_96 : decode cX6_giveEvents 96 = .ok (.aload 4, 2) := by decide +kernel
theorem dX6_giveEvents_98 : decode cX6_giveEvents 98 = .ok (.iload 9, 2) := by decide +kernel
theorem dX6_giveEvents_100 : decode cX6_giveEvents 100 = .ok (.invokevirtual 49, 3) := by decide +kernel
theorem dX6_giveEvents_103 : decode cX6_giveEvents 103 = .ok (.iload 6, 2) := by decide +kernel
theorem dX6_giveEvents_105 : decode cX6_giveEvents 105 = .ok (.istore 10, 2) := by decide +kernel
theorem dX6_giveEvents_107 : decode cX6_giveEvents 107 = .ok (.iload 10, 2) := by decide +kernel
theorem dX6_giveEvents_109 : decode cX6_giveEvents 109 = .ok (.iload 6, 2) := by decide +kernel
theorem dX6_giveEvents_111 : decode cX6_giveEvents 111 = .ok (.iload 9, 2) := by decide +kernel
theorem dX6_giveEvents_113 : decode cX6_giveEvents 113 = .ok (.iadd, 1) := by decide +kernel
theorem dX6_giveEvents_114 : decode cX6_giveEvents 114 = .ok (.if_icmp .ge 34, 3) := by decide +kernel
theorem dX6_giveEvents_117 : decode cX6_giveEvents 117 = .ok (.aload 4, 2) := by decide +kernel
theorem dX6_giveEvents_119 : decode cX6_giveEvents 119 = .ok (.aload 5, 2) := by decide +kernel
theorem dX6_giveEvents_121 : decode cX6_giveEvents 121 = .ok (.iload 10, 2) := by decide +kernel
theorem dX6_giveEvents_123 : decode cX6_giveEvents 123 = .ok (.invokevirtual 82, 3) := by decide +kernel
theorem dX6_giveEvents_126 : decode cX6_giveEvents 126 = .ok (.invokevirtual 49, 3) := by decide +kernel
theorem dX6_giveEvents_129 : decode cX6_giveEvents 129 = .ok (.aload 4, 2) := by decide +kernel
theorem dX6_giveEvents_131 : decode cX6_giveEvents 131 = .ok (.iload_n 1, 1) := by decide +kernel
theorem dX6_giveEvents_132 : decode cX6_giveEvents 132 = .ok (.aload 5, 2) := by decide +kernel
theorem dX6_giveEvents_134 : decode cX6_giveEvents 134 = .ok (.iload 10, 2) := by decide +kernel
theorem dX6_giveEvents_136 : decode cX6_giveEvents 136 = .ok (.invokevirtual 85, 3) := by decide +kernel
theorem dX6_giveEvents_139 : decode cX6_giveEvents 139 = .ok (.invokevirtual 58, 3) := by decide +kernel
theorem dX6_giveEvents_142 : decode cX6_giveEvents 142 = .ok (.iinc 10 1, 3) := by decide +kernel
theorem dX6_giveEvents_145 : decode cX6_giveEvents 145 = .ok (.goto (-38), 3) := by decide +kernel
theorem dX6_giveEvents_148 : decode cX6_giveEvents 148 = .ok (.aload 5, 2) := by decide +kernel
theorem dX6_giveEvents_150 : decode cX6_giveEvents 150 = .ok (.iload 9, 2) := by decide +kernel
theorem dX6_giveEvents_152 : decode cX6_giveEvents 152 = .ok (.invokevirtual 88, 3) := by decide +kernel
theorem dX6_giveEvents_155 : decode cX6_giveEvents 155 = .ok (.iconst 0, 1) := by decide +kernel
theorem dX6_giveEvents_156 : decode cX6_giveEvents 156 = .ok (.ireturn, 1) := by decide +kernel
theorem dX7_init_0 : decode cX7_init 0 = .ok (.aload_n 0, 1) := by decide +kernel
theorem dX7_init_1 : decode cX7_init 1 = .ok (.invokespecial 3, 3) := by decide +kernel
theorem dX7_init_4 : decode cX7_init 4 = .ok (.aload_n 0, 1) := by decide +kernel
theorem dX7_init_5 : decode cX7_init 5 = .ok (.new 9, 3) := by decide +kernel
theorem dX7_init_8 : decode cX7_init 8 = .ok (.dup, 1) := by decide +kernel
theorem dX7_init_9 : decode cX7_init 9 = .ok (.bipush 62, 2) := by decide +kernel
theorem dX7_init_11 : decode cX7_init 11 = .ok (.invokespecial 11, 3) := by decide +kernel
theorem dX7_init_14 : decode cX7_init 14 = .ok (.putfield 14, 3) := by decide +kernel
theorem dX7_init_17 : decode cX7_init 17 = .ok (.aload_n 0, 1) := by decide +kernel
theorem dX7_init_18 : decode cX7_init 18 = .ok (.new 20, 3) := by decide +kernel
theorem dX7_init_21 : decode cX7_init 21 = .ok (.dup, 1) := by decide +kernel
theorem dX7_init_22 : decode cX7_init 22 = .ok (.invokespecial 22, 3) := by decide +kernel
theorem dX7_init_25 : decode cX7_init 25 = .ok (.putfield 23, 3) := by decide +kernel
theorem dX7_init_28 : decode cX7_init 28 = .ok (.aload_n 0, 1) := by decide +kernel
theorem dX7_init_29 : decode cX7_init 29 = .ok (.new 27, 3) := by decide +kernel
theorem dX7_init_32 : decode cX7_init 32 = .ok (.dup, 1) := by decide +kernel
theorem dX7_init_33 : decode cX7_init 33 = .ok (.invokespecial 29, 3) := by decide +kernel
theorem dX7_init_36 : decode cX7_init 36 = .ok (.putfield 30, 3) := by decide +kernel
theorem dX7_init_39 : decode cX7_init 39 = .ok (.aload_n 0, 1) := by decide +kernel
theorem dX7_init_40 : decode cX7_init 40 = .ok (.iconst 0, 1) := by decide +kernel
theorem dX7_init_41 : decode cX7_init 41 = .ok (.putfield 34, 3) := by decide +kernel
theorem dX7_init_44 : decode cX7_init 44 = .ok (.aload_n 0, 1) := by decide +kernel
theorem dX7_init_45 : decode cX7_init 45 = .ok (.iconst 0, 1) := by decide +kernel
theorem dX7_init_46 : decode cX7_init 46 = .ok (.putfield 38, 3) := by decide +kernel
theorem dX7_init_49 : decode cX7_init 49 = .ok (.return_, 1) := by decide +kernel
theorem dX7_answer_0 : decode cX7_answer 0 = .ok (.aload_n 0, 1) := by decide +kernel
theorem dX7_answer_1 : decode cX7_answer 1 = .ok (.getfield 14, 3) := by decide +kernel
theorem dX7_answer_4 : decode cX7_answer 4 = .ok (.areturn, 1) := by decide +kernel
theorem dX7_letPass_0 : decode cX7_letPass 0 = .ok (.aload_n 0, 1) := by decide +kernel
theorem dX7_letPass_1 : decode cX7_letPass 1 = .ok (.getfield 30, 3) := by decide +kernel
theorem dX7_letPass_4 : decode cX7_letPass 4 = .ok (.iload_n 1, 1) := by decide +kernel
theorem dX7_letPass_5 : decode cX7_letPass 5 = .ok (.invokevirtual 42, 3) := by decide +kernel
theorem dX7_letPass_8 : decode cX7_letPass 8 = .ok (.return_, 1) := by decide +kernel
theorem dX7_handle_0 : decode cX7_handle 0 = .ok (.aload_n 1, 1) := by decide +kernel
theorem dX7_handle_1 : decode cX7_handle 1 = .ok (.iconst 0, 1) := by decide +kernel
theorem dX7_handle_2 : decode cX7_handle 2 = .ok (.invokevirtual 45, 3) := by decide +kernel
theorem dX7_handle_5 : decode cX7_handle 5 = .ok (.sipush 192, 3) := by decide +kernel
theorem dX7_handle_8 : decode cX7_handle 8 = .ok (.isub, 1) := by decide +kernel
theorem dX7_handle_9 : decode cX7_handle 9 = .ok (.istore_n 3, 1) := by decide +kernel
theorem dX7_handle_10 : decode cX7_handle 10 = .ok (.aload_n 1, 1) := by decide +kernel
theorem dX7_handle_11 : decode cX7_handle 11 = .ok (.invokevirtual 49, 3) := by decide +kernel
theorem dX7_handle_14 : decode cX7_handle 14 = .ok (.iconst 2, 1) := by decide +kernel
theorem dX7_handle_15 : decode cX7_handle 15 = .ok (.if_icmp .lt 13, 3) := by decide +kernel
theorem dX7_handle_18 : decode cX7_handle 18 = .ok (.iload_n 3, 1) := by decide +kernel
theorem dX7_handle_19 : decode cX7_handle 19 = .ok (.ifCond .lt 9, 3) := by decide +kernel
theorem dX7_handle_22 : decode cX7_handle 22 = .ok (.iload_n 3, 1) := by decide +kernel
theorem dX7_handle_23 : decode cX7_handle 23 = .ok (.bipush 16, 2) := by decide +kernel
theorem dX7_handle_25 : decode cX7_handle 25 = .ok (.if_icmp .lt 5, 3) := by decide +kernel
theorem dX7_handle_28 : decode cX7_handle 28 = .ok (.iconst 0, 1) := by decide +kernel
theorem dX7_handle_29 : decode cX7_handle 29 = .ok (.ireturn, 1) := by decide +kernel
theorem dX7_handle_30 : decode cX7_handle 30 = .ok (.aload_n 1, 1) := by decide +kernel
theorem dX7_handle_31 : decode cX7_handle 31 = .ok (.iconst 1, 1) := by decide +kernel
theorem dX7_handle_32 : decode cX7_handle 32 = .ok (.invokevirtual 45, 3) := by decide +kernel
theorem dX7_handle_35 : decode cX7_handle 35 = .ok (.istore 4, 2) := by decide +kernel
theorem dX7_handle_37 : decode cX7_handle 37 = .ok (.iload 4, 2) := by decide +kernel
theorem dX7_handle_39 : decode cX7_handle 39 = .ok (.ifCond .ne 11, 3) := by decide +kernel
theorem dX7_handle_42 : decode cX7_handle 42 = .ok (.aload_n 0, 1) := by decide +kernel
theorem dX7_handle_43 : decode cX7_handle 43 = .ok (.iload_n 3, 1) := by decide +kernel
theorem dX7_handle_44 : decode cX7_handle 44 = .ok (.aload_n 2, 1) := by decide +kernel
theorem dX7_handle_45 : decode cX7_handle 45 = .ok (.invokevirtual 53, 3) := by decide +kernel
theorem dX7_handle_48 : decode cX7_handle 48 = .ok (.iconst 0, 1) := by decide +kernel
theorem dX7_handle_49 : decode cX7_handle 49 = .ok (.ireturn, 1) := by decide +kernel
theorem dX7_handle_50 : decode cX7_handle 50 = .ok (.aload_n 2, 1) := by decide +kernel
theorem dX7_handle_51 : decode cX7_handle 51 = .ok (.invokevirtual 57, 3) := by decide +kernel
theorem dX7_handle_54 : decode cX7_handle 54 = .ok (.iload 4, 2) := by decide +kernel
theorem dX7_handle_56 : decode cX7_handle 56 = .ok (.iconst 3, 1) := by decide +kernel
theorem dX7_handle_57 : decode cX7_handle 57 = .ok (.if_icmp .eq 16, 3) := by decide +kernel
theorem dX7_handle_60 : decode cX7_handle 60 = .ok (.iload 4, 2) := by decide +kernel
theorem dX7_handle_62 : decode cX7_handle 62 = .ok (.iconst 4, 1) := by decide +kernel
theorem dX7_handle_63 : decode cX7_handle 63 = .ok (.if_icmp .eq 10, 3) := by decide +kernel
theorem dX7_handle_66 : decode cX7_handle 66 = .ok (.aload_n 0, 1) := by decide +kernel
theorem dX7_handle_67 : decode cX7_handle 67 = .ok (.getfield 30, 3) := by decide +kernel
theorem dX7_handle_70 : decode cX7_handle 70 = .ok (.invokevirtual 62, 3) := by decide +kernel
theorem dX7_handle_73 : decode cX7_handle 73 = .ok (.aload_n 0, 1) := by decide +kernel
theorem dX7_handle_74 : decode cX7_handle 74 = .ok (.invokevirtual 65, 3) := by decide +kernel
theorem dX7_handle_77 : decode cX7_handle 77 = .ok (.iconst 1, 1) := by decide +kernel
theorem dX7_handle_78 : decode cX7_handle 78 = .ok (.istore 5, 2) := by decide +kernel
theorem dX7_handle_80 : decode cX7_handle 80 = .ok (.iload 4, 2) := by decide +kernel
theorem dX7_handle_82 : decode cX7_handle 82 = .ok (.iconst 1, 1) := by decide +kernel
theorem dX7_handle_83 : decode cX7_handle 83 = .ok (.if_icmp .ne 21, 3) := by decide +kernel
theorem dX7_handle_86 : decode cX7_handle 86 = .ok (.aload_n 0, 1) := by decide +kernel
theorem dX7_handle_87 : decode cX7_handle 87 = .ok (.getfield 23, 3) := by decide +kernel
theorem dX7_handle_90 : decode cX7_handle 90 = .ok (.aload_n 1, 1) := by decide +kernel
theorem dX7_handle_91 : decode cX7_handle 91 = .ok (.aload_n 2, 1) := by decide +kernel
theorem dX7_handle_92 : decode cX7_handle 92 = .ok (.aload_n 0, 1) := by decide +kernel
theorem dX7_handle_93 : decode cX7_handle 93 = .ok (.getfield 14, 3) := by decide +kernel
theorem dX7_handle_96 : decode cX7_handle 96 = .ok (.invokevirtual 68, 3) := by decide +kernel
theorem dX7_handle_99 : decode cX7_handle 99 = .ok (.istore 5, 2) := by decide +kernel
theorem dX7_handle_101 : decode cX7_handle 101 = .ok (.goto 49, 3) := by decide +kernel
theorem dX7_handle_104 : decode cX7_handle 104 = .ok (.iload 4, 2) := by decide +kernel
theorem dX7_handle_106 : decode cX7_handle 106 = .ok (.iconst 2, 1) := by decide +kernel
theorem dX7_handle_107 : decode cX7_handle 107 = .ok (.if_icmp .ne 14, 3) := by decide +kernel
theorem dX7_handle_110 : decode cX7_handle 110 = .ok (.aload_n 0, 1) := by decide +kernel
theorem dX7_handle_111 : decode cX7_handle 111 = .ok (.aload_n 1, 1) := by decide +kernel
theorem dX7_handle_112 : decode cX7_handle 112 = .ok (.aload_n 2, 1) := by decide +kernel
theorem dX7_handle_113 : decode cX7_handle 113 = .ok (.invokevirtual 72, 3) := by decide +kernel
theorem dX7_handle_116 : decode cX7_handle 116 = .ok (.istore 5, 2) := by decide +kernel
theorem dX7_handle_118 : decode cX7_handle 118 = .ok (.goto 32, 3) := by decide +kernel
theorem dX7_handle_121 : decode cX7_handle 121 = .ok (.iload 4, 2) := by decide +kernel
theorem dX7_handle_123 : decode cX7_handle 123 = .ok (.iconst 3, 1) := by decide +kernel
theorem dX7_handle_124 : decode cX7_handle 124 = .ok (.if_icmp .eq 15, 3) := by decide +kernel
theorem dX7_handle_127 : decode cX7_handle 127 = .ok (.iload 4, 2) := by decide +kernel
theorem dX7_handle_129 : decode cX7_handle 129 = .ok (.iconst 4, 1) := by decide +kernel
theorem dX7_handle_130 : decode cX7_handle 130 = .ok (.if_icmp .eq 9, 3) := by decide +kernel
theorem dX7_handle_133 : decode cX7_handle 133 = .ok (.iload 4, 2) := by decide +kernel
theorem dX7_handle_135 : decode cX7_handle 135 = .ok (.iconst 5, 1) := by decide +kernel
theorem dX7_handle_136 : decode cX7_handle 136 = .ok (.if_icmp .ne 14, 3) := by decide +kernel
theorem dX7_handle_139 : decode cX7_handle 139 = .ok (.aload_n 0, 1) := by decide +kernel
theorem dX7_handle_140 : decode cX7_handle 140 = .ok (.iload 4, 2) := by decide +kernel
theorem dX7_handle_142 : decode cX7_handle 142 = .ok (.iload_n 3, 1) := by decide +kernel
theorem dX7_handle_143 : decode cX7_handle 143 = .ok (.aload_n 1, 1) := by decide +kernel
theorem dX7_handle_144 : decode cX7_handle 144 = .ok (.aload_n 2, 1) := by decide +kernel
theorem dX7_handle_145 : decode cX7_handle 145 = .ok (.invokevirtual 76, 3) := by decide +kernel
theorem dX7_handle_148 : decode cX7_handle 148 = .ok (.istore 5, 2) := by decide +kernel
theorem dX7_handle_150 : decode cX7_handle 150 = .ok (.aload_n 0, 1) := by decide +kernel
theorem dX7_handle_151 : decode cX7_handle 151 = .ok (.iload_n 3, 1) := by decide +kernel
theorem dX7_handle_152 : decode cX7_handle 152 = .ok (.iload 5, 2) := by decide +kernel
theorem dX7_handle_154 : decode cX7_handle 154 = .ok (.aload_n 2, 1) := by decide +kernel
theorem dX7_handle_155 : decode cX7_handle 155 = .ok (.invokevirtual 80, 3) := by decide +kernel
theorem dX7_handle_158 : decode cX7_handle 158 = .ok (.iconst 1, 1) := by decide +kernel
theorem dX7_handle_159 : decode cX7_handle 159 = .ok (.ireturn, 1) := by decide +kernel
theorem dX7_confirm_0 : decode cX7_confirm 0 = .ok (.aload_n 0, 1) := by decide +kernel
theorem dX7_confirm_1 : decode cX7_confirm 1 = .ok (.getfield 34, 3) := by decide +kernel
theorem dX7_confirm_4 : decode cX7_confirm 4 = .ok (.ifCond .eq 20, 3) := by decide +kernel
theorem dX7_confirm_7 : decode cX7_confirm 7 = .ok (.iload_n 1, 1) := by decide +kernel
theorem dX7_confirm_8 : decode cX7_confirm 8 = .ok (.aload_n 0, 1) := by decide +kernel
theorem dX7_confirm_9 : decode cX7_confirm 9 = .ok (.getfield 38, 3) := by decide +kernel
theorem dX7_confirm_12 : decode cX7_confirm 12 = .ok (.if_icmp .ne 12, 3) := by decide +kernel
theorem dX7_confirm_15 : decode cX7_confirm 15 = .ok (.aload_n 2, 1) := by decide +kernel
theorem dX7_confirm_16 : decode cX7_confirm 16 = .ok (.invokevirtual 84, 3) := by decide +kernel
theorem dX7_confirm_19 : decode cX7_confirm 19 = .ok (.aload_n 0, 1) := by decide +kernel
theorem dX7_confirm_20 : decode cX7_confirm 20 = .ok (.iconst 0, 1) := by decide +kernel
theorem dX7_confirm_21 : decode cX7_confirm 21 = .ok (.putfield 34, 3) := by decide +kernel
theorem dX7_confirm_24 : decode cX7_confirm 24 = .ok (.return_, 1) := by decide +kernel
theorem dX7_beginAnswer_0 : decode cX7_beginAnswer 0 = .ok (.aload_n 0, 1) := by decide +kernel
theorem dX7_beginAnswer_1 : decode cX7_beginAnswer 1 = .ok (.getfield 14, 3) := by decide +kernel
theorem dX7_beginAnswer_4 : decode cX7_beginAnswer 4 = .ok (.invokevirtual 87, 3) := by decide +kernel
theorem dX7_beginAnswer_7 : decode cX7_beginAnswer 7 = .ok (.iconst 0, 1) := by decide +kernel
theorem dX7_beginAnswer_8 : decode cX7_beginAnswer 8 = .ok (.istore_n 1, 1) := by decide +kernel
theorem dX7_beginAnswer_9 : decode cX7_beginAnswer 9 = .ok (.iload_n 1, 1) := by decide +kernel
theorem dX7_beginAnswer_10 : decode cX7_beginAnswer 10 = .ok (.iconst 4, 1) := by decide +kernel
theorem dX7_beginAnswer_11 : decode cX7_beginAnswer 11 = .ok (.if_icmp .ge 17, 3) := by decide +kernel
theorem dX7_beginAnswer_14 : decode cX7_beginAnswer 14 = .ok (.aload_n 0, 1) := by decide +kernel
theorem dX7_beginAnswer_15 : decode cX7_beginAnswer 15 = .ok (.getfield 14, 3) := by decide +kernel
theorem dX7_beginAnswer_18 : decode cX7_beginAnswer 18 = .ok (.iconst 0, 1) := by decide +kernel
theorem dX7_beginAnswer_19 : decode cX7_beginAnswer 19 = .ok (.invokevirtual 90, 3) := by decide +kernel
theorem dX7_beginAnswer_22 : decode cX7_beginAnswer 22 = .ok (.iinc 1 1, 3) := by decide +kernel
theorem dX7_beginAnswer_25 : decode cX7_beginAnswer 25 = .ok (.goto (-16), 3) := by decide +kernel
theorem dX7_beginAnswer_28 : decode cX7_beginAnswer 28 = .ok (.return_, 1) := by decide +kernel
theorem dX7_completeAnswer_0 : decode cX7_completeAnswer 0 = .ok (.aload_n 0, 1) := by decide +kernel
theorem dX7_completeAnswer_1 : decode cX7_completeAnswer 1 = .ok (.aload_n 3, 1) := by decide +kernel
theorem dX7_completeAnswer_2 : decode cX7_completeAnswer 2 = .ok (.invokevirtual 93, 3) := by decide +kernel
theorem dX7_completeAnswer_5 : decode cX7_completeAnswer 5 = .ok (.putfield 34, 3) := by decide +kernel
theorem dX7_completeAnswer_8 : decode cX7_completeAnswer 8 = .ok (.aload_n 0, 1) := by decide +kernel
theorem dX7_completeAnswer_9 : decode cX7_completeAnswer 9 = .ok (.iload_n 1, 1) := by decide +kernel
theorem dX7_completeAnswer_10 : decode cX7_completeAnswer 10 = .ok (.putfield 38, 3) := by decide +kernel
theorem dX7_completeAnswer_13 : decode cX7_completeAnswer 13 = .ok (.aload_n 0, 1) := by decide +kernel
theorem dX7_completeAnswer_14 : decode cX7_completeAnswer 14 = .ok (.getfield 14, 3) := by decide +kernel
theorem dX7_completeAnswer_17 : decode cX7_completeAnswer 17 = .ok (.iconst 0, 1) := by decide +kernel
theorem dX7_completeAnswer_18 : decode cX7_completeAnswer 18 = .ok (.sipush 192, 3) := by decide +kernel
theorem dX7_completeAnswer_21 : decode cX7_completeAnswer 21 = .ok (.iload_n 1, 1) := by decide +kernel
theorem dX7_completeAnswer_22 : decode cX7_completeAnswer 22 = .ok (.iadd, 1) := by decide +kernel
theorem dX7_completeAnswer_23 : decode cX7_completeAnswer 23 = .ok (.aload_n 0, 1) := by decide +kernel
theorem dX7_completeAnswer_24 : decode cX7_completeAnswer 24 = .ok (.getfield 34, 3) := by decide +kernel
theorem dX7_completeAnswer_27 : decode cX7_completeAnswer 27 = .ok (.ifCond .eq 8, 3) := by decide +kernel
theorem dX7_completeAnswer_30 : decode cX7_completeAnswer 30 = .ok (.bipush 32, 2) := by decide +kernel
theorem dX7_completeAnswer_32 : decode cX7_completeAnswer 32 = .ok (.goto 4, 3) := by decide +kernel
theorem dX7_completeAnswer_35 : decode cX7_completeAnswer 35 = .ok (.iconst 0, 1) := by decide +kernel
theorem dX7_completeAnswer_36 : decode cX7_completeAnswer 36 = .ok (.iadd, 1) := by decide +kernel
theorem dX7_completeAnswer_37 : decode cX7_completeAnswer 37 = .ok (.invokevirtual 97, 3) := by decide +kernel
theorem dX7_completeAnswer_40 : decode cX7_completeAnswer 40 = .ok (.aload_n 0, 1) := by decide +kernel
theorem dX7_completeAnswer_41 : decode cX7_completeAnswer 41 = .ok (.getfield 14, 3) := by decide +kernel
theorem dX7_completeAnswer_44 : decode cX7_completeAnswer 44 = .ok (.iconst 1, 1) := by decide +kernel
theorem dX7_completeAnswer_45 : decode cX7_completeAnswer 45 = .ok (.sipush 129, 3) := by decide +kernel
theorem dX7_completeAnswer_48 : decode cX7_completeAnswer 48 = .ok (.invokevirtual 97, 3) := by decide +kernel
theorem dX7_completeAnswer_51 : decode cX7_completeAnswer 51 = .ok (.aload_n 0, 1) := by decide +kernel
theorem dX7_completeAnswer_52 : decode cX7_completeAnswer 52 = .ok (.getfield 14, 3) := by decide +kernel
theorem dX7_completeAnswer_55 : decode cX7_completeAnswer 55 = .ok (.iconst 2, 1) := by decide +kernel
theorem dX7_completeAnswer_56 : decode cX7_completeAnswer 56 = .ok (.aload_n 3, 1) := by decide +kernel
theorem dX7_completeAnswer_57 : decode cX7_completeAnswer 57 = .ok (.invokevirtual 101, 3) := by decide +kernel
theorem dX7_completeAnswer_60 : decode cX7_completeAnswer 60 = .ok (.invokevirtual 97, 3) := by decide +kernel
theorem dX7_completeAnswer_63 : decode cX7_completeAnswer 63 = .ok (.aload_n 0, 1) := by decide +kernel
theorem dX7_completeAnswer_64 : decode cX7_completeAnswer 64 = .ok (.getfield 14, 3) := by decide +kernel
theorem dX7_completeAnswer_67 : decode cX7_completeAnswer 67 = .ok (.iconst 3, 1) := by decide +kernel
theorem dX7_completeAnswer_68 : decode cX7_completeAnswer 68 = .ok (.iload_n 2, 1) := by decide +kernel
theorem dX7_completeAnswer_69 : decode cX7_completeAnswer 69 = .ok (.aload_n 3, 1) := by decide +kernel
theorem dX7_completeAnswer_70 : decode cX7_completeAnswer 70 = .ok (.invokevirtual 104, 3) := by decide +kernel
theorem dX7_completeAnswer_73 : decode cX7_completeAnswer 73 = .ok (.iadd, 1) := by decide +kernel
theorem dX7_completeAnswer_74 : decode cX7_completeAnswer 74 = .ok (.invokevirtual 97, 3) := by decide +kernel
theorem dX7_completeAnswer_77 : decode cX7_completeAnswer 77 = .ok (.return_, 1) := by decide +kernel
theorem dX7_write_0 : decode cX7_write 0 = .ok (.aload_n 1, 1) := by decide +kernel
theorem dX7_write_1 : decode cX7_write 1 = .ok (.invokevirtual 49, 3) := by decide +kernel
theorem dX7_write_4 : decode cX7_write 4 = .ok (.bipush 8, 2) := by decide +kernel
theorem dX7_write_6 : decode cX7_write 6 = .ok (.if_icmp .ne 64, 3) := by decide +kernel
theorem dX7_write_9 : decode cX7_write 9 = .ok (.aload_n 1, 1) := by decide +kernel
theorem dX7_write_10 : decode cX7_write 10 = .ok (.iconst 2, 1) := by decide +kernel
theorem dX7_write_11 : decode cX7_write 11 = .ok (.invokevirtual 45, 3) := by decide +kernel
theorem dX7_write_14 : decode cX7_write 14 = .ok (.bipush 80, 2) := by decide +kernel
theorem dX7_write_16 : decode cX7_write 16 = .ok (.if_icmp .ne 54, 3) := by decide +kernel
theorem dX7_write_19 : decode cX7_write 19 = .ok (.aload_n 1, 1) := by decide +kernel
theorem dX7_write_20 : decode cX7_write 20 = .ok (.iconst 3, 1) := by decide +kernel
theorem dX7_write_21 : decode cX7_write 21 = .ok (.invokevirtual 45, 3) := by decide +kernel
theorem dX7_write_24 : decode cX7_write 24 = .ok (.iconst 1, 1) := by decide +kernel
theorem dX7_write_25 : decode cX7_write 25 = .ok (.if_icmp .ne 45, 3) := by decide +kernel
theorem dX7_write_28 : decode cX7_write 28 = .ok (.aload_n 1, 1) := by decide +kernel
theorem dX7_write_29 : decode cX7_write 29 = .ok (.iconst 4, 1) := by decide +kernel
theorem dX7_write_30 : decode cX7_write 30 = .ok (.invokevirtual 45, 3) := by decide +kernel
theorem dX7_write_33 : decode cX7_write 33 = .ok (.ifCond .ne 37, 3) := by decide +kernel
theorem dX7_write_36 : decode cX7_write 36 = .ok (.aload_n 1, 1) := by decide +kernel
theorem dX7_write_37 : decode cX7_write 37 = .ok (.iconst 5, 1) := by decide +kernel
theorem dX7_write_38 : decode cX7_write 38 = .ok (.invokevirtual 45, 3) := by decide +kernel
theorem dX7_write_41 : decode cX7_write 41 = .ok (.bipush 7, 2) := by decide +kernel
theorem dX7_write_43 : decode cX7_write 43 = .ok (.if_icmp .ne 27, 3) := by decide +kernel
theorem dX7_write_46 : decode cX7_write 46 = .ok (.aload_n 1, 1) := by decide +kernel
theorem dX7_write_47 : decode cX7_write 47 = .ok (.bipush 6, 2) := by decide +kernel
theorem dX7_write_49 : decode cX7_write 49 = .ok (.invokevirtual 45, 3) := by decide +kernel
theorem dX7_write_52 : decode cX7_write 52 = .ok (.bipush 7, 2) := by decide +kernel
theorem dX7_write_54 : decode cX7_write 54 = .ok (.if_icmp .ne 16, 3) := by decide +kernel
theorem dX7_write_57 : decode cX7_write 57 = .ok (.aload_n 1, 1) := by decide +kernel
theorem dX7_write_58 : decode cX7_write 58 = .ok (.bipush 7, 2) := by decide +kernel
theorem dX7_write_60 : decode cX7_write 60 = .ok (.invokevirtual 45, 3) := by decide +kernel
theorem dX7_write_63 : decode cX7_write 63 = .ok (.ifCond .ne 7, 3) := by decide +kernel
theorem dX7_write_66 : decode cX7_write 66 = .ok (.iconst 1, 1) := by decide +kernel
theorem dX7_write_67 : decode cX7_write 67 = .ok (.goto 4, 3) := by decide +kernel
theorem dX7_write_70 : decode cX7_write 70 = .ok (.iconst 0, 1) := by decide +kernel
theorem dX7_write_71 : decode cX7_write 71 = .ok (.istore_n 3, 1) := by decide +kernel
theorem dX7_write_72 : decode cX7_write 72 = .ok (.iload_n 3, 1) := by decide +kernel
theorem dX7_write_73 : decode cX7_write 73 = .ok (.ifCond .ne 5, 3) := by decide +kernel
theorem dX7_write_76 : decode cX7_write 76 = .ok (.iconst 4, 1) := by decide +kernel
theorem dX7_write_77 : decode cX7_write 77 = .ok (.ireturn, 1) := by decide +kernel
theorem dX7_write_78 : decode cX7_write 78 = .ok (.aload_n 2, 1) := by decide +kernel
theorem dX7_write_79 : decode cX7_write 79 = .ok (.invokevirtual 107, 3) := by decide +kernel
theorem dX7_write_82 : decode cX7_write 82 = .ok (.iconst 0, 1) := by decide +kernel
theorem dX7_write_83 : decode cX7_write 83 = .ok (.ireturn, 1) := by decide +kernel
theorem dX7_command_0 : decode cX7_command 0 = .ok (.aload_n 3, 1) := by decide +kernel
theorem dX7_command_1 : decode cX7_command 1 = .ok (.invokevirtual 49, 3) := by decide +kernel
theorem dX7_command_4 : decode cX7_command 4 = .ok (.bipush 8, 2) := by decide +kernel
theorem dX7_command_6 : decode cX7_command 6 = .ok (.if_icmp .ne 45, 3) := by decide +kernel
theorem dX7_command_9 : decode cX7_command 9 = .ok (.aload_n 3, 1) := by decide +kernel
theorem dX7_command_10 : decode cX7_command 10 = .ok (.iconst 2, 1) := by decide +kernel
theorem dX7_command_11 : decode cX7_command 11 = .ok (.invokevirtual 45, 3) := by decide +kernel
theorem dX7_command_14 : decode cX7_command 14 = .ok (.bipush 12, 2) := by decide +kernel
theorem dX7_command_16 : decode cX7_command 16 = .ok (.if_icmp .ne 35, 3) := by decide +kernel
theorem dX7_command_19 : decode cX7_command 19 = .ok (.aload_n 3, 1) := by decide +kernel
theorem dX7_command_20 : decode cX7_command 20 = .ok (.iconst 3, 1) := by decide +kernel
theorem dX7_command_21 : decode cX7_command 21 = .ok (.invokevirtual 45, 3) := by decide +kernel
theorem dX7_command_24 : decode cX7_command 24 = .ok (.iconst 1, 1) := by decide +kernel
theorem dX7_command_25 : decode cX7_command 25 = .ok (.if_icmp .ne 26, 3) := by decide +kernel
theorem dX7_command_28 : decode cX7_command 28 = .ok (.aload_n 3, 1) := by decide +kernel
theorem dX7_command_29 : decode cX7_command 29 = .ok (.iconst 4, 1) := by decide +kernel
theorem dX7_command_30 : decode cX7_command 30 = .ok (.invokevirtual 45, 3) := by decide +kernel
theorem dX7_command_33 : decode cX7_command 33 = .ok (.bipush 23, 2) := by decide +kernel
theorem dX7_command_35 : decode cX7_command 35 = .ok (.if_icmp .ne 16, 3) := by decide +kernel
theorem dX7_command_38 : decode cX7_command 38 = .ok (.aload_n 3, 1) := by decide +kernel
theorem dX7_command_39 : decode cX7_command 39 = .ok (.iconst 5, 1) := by decide +kernel
theorem dX7_command_40 : decode cX7_command 40 = .ok (.invokevirtual 45, 3) := by decide +kernel
theorem dX7_command_43 : decode cX7_command 43 = .ok (.iconst 1, 1) := by decide +kernel
theorem dX7_command_44 : decode cX7_command 44 = .ok (.if_icmp .ne 7, 3) := by decide +kernel
theorem dX7_command_47 : decode cX7_command 47 = .ok (.iconst 1, 1) := by decide +kernel
theorem dX7_command_48 : decode cX7_command 48 = .ok (.goto 4, 3) := by decide +kernel
theorem dX7_command_51 : decode cX7_command 51 = .ok (.iconst 0, 1) := by decide +kernel
theorem dX7_command_52 : decode cX7_command 52 = .ok (.istore 5, 2) := by decide +kernel
theorem dX7_command_54 : decode cX7_command 54 = .ok (.iload 5, 2) := by decide +kernel
theorem dX7_command_56 : decode cX7_command 56 = .ok (.ifCond .ne 12, 3) := by decide +kernel
theorem dX7_command_59 : decode cX7_command 59 = .ok (.aload_n 0, 1) := by decide +kernel
theorem dX7_command_60 : decode cX7_command 60 = .ok (.getfield 30, 3) := by decide +kernel
theorem dX7_command_63 : decode cX7_command 63 = .ok (.invokevirtual 62, 3) := by decide +kernel
theorem dX7_command_66 : decode cX7_command 66 = .ok (.iconst 4, 1) := by decide +kernel
theorem dX7_command_67 : decode cX7_command 67 = .ok (.ireturn, 1) := by decide +kernel
theorem dX7_command_68 : decode cX7_command 68 = .ok (.aload_n 3, 1) := by decide +kernel
theorem dX7_command_69 : decode cX7_command 69 = .ok (.bipush 6, 2) := by decide +kernel
theorem dX7_command_71 : decode cX7_command 71 = .ok (.invokevirtual 45, 3) := by decide +kernel
theorem dX7_command_74 : decode cX7_command 74 = .ok (.istore 6, 2) := by decide +kernel
theorem dX7_command_76 : decode cX7_command 76 = .ok (.aload_n 3, 1) := by decide +kernel
theorem dX7_command_77 : decode cX7_command 77 = .ok (.bipush 7, 2) := by decide +kernel
theorem dX7_command_79 : decode cX7_command 79 = .ok (.invokevirtual 45, 3) := by decide +kernel
theorem dX7_command_82 : decode cX7_command 82 = .ok (.istore 7, 2) := by decide +kernel
theorem dX7_command_84 : decode cX7_command 84 = .ok (.aload_n 0, 1) := by decide +kernel
theorem dX7_command_85 : decode cX7_command 85 = .ok (.getfield 30, 3) := by decide +kernel
theorem dX7_command_88 : decode cX7_command 88 = .ok (.iload_n 1, 1) := by decide +kernel
theorem dX7_command_89 : decode cX7_command 89 = .ok (.iload_n 2, 1) := by decide +kernel
theorem dX7_command_90 : decode cX7_command 90 = .ok (.iload 6, 2) := by decide +kernel
theorem dX7_command_92 : decode cX7_command 92 = .ok (.iload 7, 2) := by decide +kernel
theorem dX7_command_94 : decode cX7_command 94 = .ok (.invokevirtual 110, 3) := by decide +kernel
theorem dX7_command_97 : decode cX7_command 97 = .ok (.istore 8, 2) := by decide +kernel
theorem dX7_command_99 : decode cX7_command 99 = .ok (.aload_n 0, 1) := by decide +kernel
theorem dX7_command_100 : decode cX7_command 100 = .ok (.getfield 30, 3) := by decide +kernel
theorem dX7_command_103 : decode cX7_command 103 = .ok (.invokevirtual 62, 3) := by decide +kernel
theorem dX7_command_106 : decode cX7_command 106 = .ok (.iload 8, 2) := by decide +kernel
theorem dX7_command_108 : decode cX7_command 108 = .ok (.ifCond .ne 23, 3) := by decide +kernel
theorem dX7_command_111 : decode cX7_command 111 = .ok (.iload_n 1, 1) := by decide +kernel
theorem dX7_command_112 : decode cX7_command 112 = .ok (.iconst 3, 1) := by decide +kernel
theorem dX7_command_113 : decode cX7_command 113 = .ok (.if_icmp .ne 18, 3) := by decide +kernel
theorem dX7_command_116 : decode cX7_command 116 = .ok (.aload_n 0, 1) := by decide +kernel
theorem dX7_command_117 : decode cX7_command 117 = .ok (.getfield 30, 3) := by decide +kernel
theorem dX7_command_120 : decode cX7_command 120 = .ok (.iload_n 2, 1) := by decide +kernel
theorem dX7_command_121 : decode cX7_command 121 = .ok (.iload 6, 2) := by decide +kernel
theorem dX7_command_123 : decode cX7_command 123 = .ok (.iload 7, 2) := by decide +kernel
theorem dX7_command_125 : decode cX7_command 125 = .ok (.invokevirtual 114, 3) := by decide +kernel
theorem dX7_command_128 : decode cX7_command 128 = .ok (.goto 26, 3) := by decide +kernel
theorem dX7_command_131 : decode cX7_command 131 = .ok (.iload 8, 2) := by decide +kernel
theorem dX7_command_133 : decode cX7_command 133 = .ok (.ifCond .ne 21, 3) := by decide +kernel
theorem dX7_command_136 : decode cX7_command 136 = .ok (.aload 4, 2) := by decide +kernel
theorem dX7_command_138 : decode cX7_command 138 = .ok (.iload 6, 2) := by decide +kernel
theorem dX7_command_140 : decode cX7_command 140 = .ok (.iload 7, 2) := by decide +kernel
theorem dX7_command_142 : decode cX7_command 142 = .ok (.iconst 3, 1) := by decide +kernel
theorem dX7_command_143 : decode cX7_command 143 = .ok (.if_icmp .ne 7, 3) := by decide +kernel
theorem dX7_command_146 : decode cX7_command 146 = .ok (.iconst 1, 1) := by decide +kernel
theorem dX7_command_147 : decode cX7_command 147 = .ok (.goto 4, 3) := by decide +kernel
theorem dX7_command_150 : decode cX7_command 150 = .ok (.iconst 0, 1) := by decide +kernel
theorem dX7_command_151 : decode cX7_command 151 = .ok (.invokevirtual 118, 3) := by decide +kernel
theorem dX7_command_154 : decode cX7_command 154 = .ok (.iconst 2, 1) := by decide +kernel
theorem dX7_command_155 : decode cX7_command 155 = .ok (.istore 9, 2) := by decide +kernel
theorem dX7_command_157 : decode cX7_command 157 = .ok (.iload 9, 2) := by decide +kernel
theorem dX7_command_159 : decode cX7_command 159 = .ok (.aload_n 3, 1) := by decide +kernel
theorem dX7_command_160 : decode cX7_command 160 = .ok (.invokevirtual 49, 3) := by decide +kernel
theorem dX7_command_163 : decode cX7_command 163 = .ok (.if_icmp .ge 22, 3) := by decide +kernel
theorem dX7_command_166 : decode cX7_command 166 = .ok (.aload_n 0, 1) := by decide +kernel
theorem dX7_command_167 : decode cX7_command 167 = .ok (.getfield 14, 3) := by decide +kernel
theorem dX7_command_170 : decode cX7_command 170 = .ok (.aload_n 3, 1) := by decide +kernel
theorem dX7_command_171 : decode cX7_command 171 = .ok (.iload 9, 2) := by decide +kernel
theorem dX7_command_173 : decode cX7_command 173 = .ok (.invokevirtual 45, 3) := by decide +kernel
theorem dX7_command_176 : decode cX7_command 176 = .ok (.invokevirtual 90, 3) := by decide +kernel
theorem dX7_command_179 : decode cX7_command 179 = .ok (.iinc 9 1, 3) := by decide +kernel
theorem dX7_command_182 : decode cX7_command 182 = .ok (.goto (-25), 3) := by decide +kernel
theorem dX7_command_185 : decode cX7_command 185 = .ok (.aload_n 0, 1) := by decide +kernel
theorem dX7_command_186 : decode cX7_command 186 = .ok (.getfield 14, 3) := by decide +kernel
theorem dX7_command_189 : decode cX7_command 189 = .ok (.iload 8, 2) := by decide +kernel
theorem dX7_command_191 : decode cX7_command 191 = .ok (.invokevirtual 90, 3) := by decide +kernel
theorem dX7_command_194 : decode cX7_command 194 = .ok (.iconst 0, 1) := by decide +kernel
theorem dX7_command_195 : decode cX7_command 195 = .ok (.ireturn, 1) := by decide +kernel
theorem dX8_init_0 : decode cX8_init 0 = .ok (.aload_n 0, 1) := by decide +kernel
theorem dX8_init_1 : decode cX8_init 1 = .ok (.invokespecial 3, 3) := by decide +kernel
theorem dX8_init_4 : decode cX8_init 4 = .ok (.aload_n 0, 1) := by decide +kernel
theorem dX8_init_5 : decode cX8_init 5 = .ok (.iconst 0, 1) := by decide +kernel
theorem dX8_init_6 : decode cX8_init 6 = .ok (.putfield 9, 3) := by decide +kernel
theorem dX8_init_9 : decode cX8_init 9 = .ok (.aload_n 0, 1) := by decide +kernel
theorem dX8_init_10 : decode cX8_init 10 = .ok (.iconst 0, 1) := by decide +kernel
theorem dX8_init_11 : decode cX8_init 11 = .ok (.putfield 15, 3) := by decide +kernel
theorem dX8_init_14 : decode cX8_init 14 = .ok (.aload_n 0, 1) := by decide +kernel
theorem dX8_init_15 : decode cX8_init 15 = .ok (.iconst 0, 1) := by decide +kernel
theorem dX8_init_16 : decode cX8_init 16 = .ok (.putfield 19, 3) := by decide +kernel
theorem dX8_init_19 : decode cX8_init 19 = .ok (.aload_n 0, 1) := by decide +kernel
theorem dX8_init_20 : decode cX8_init 20 = .ok (.iconst 0, 1) := by decide +kernel
theorem dX8_init_21 : decode cX8_init 21 = .ok (.putfield 22, 3) := by decide +kernel
theorem dX8_init_24 : decode cX8_init 24 = .ok (.aload_n 0, 1) := by decide +kernel
theorem dX8_init_25 : decode cX8_init 25 = .ok (.iconst 0, 1) := by decide +kernel
theorem dX8_init_26 : decode cX8_init 26 = .ok (.putfield 25, 3) := by decide +kernel
theorem dX8_init_29 : decode cX8_init 29 = .ok (.return_, 1) := by decide +kernel
theorem dX8_begin_0 : decode cX8_begin 0 = .ok (.aload_n 0, 1) := by decide +kernel
theorem dX8_begin_1 : decode cX8_begin 1 = .ok (.iconst 1, 1) := by decide +kernel
theorem dX8_begin_2 : decode cX8_begin 2 = .ok (.putfield 9, 3) := by decide +kernel
theorem dX8_begin_5 : decode cX8_begin 5 = .ok (.aload_n 0, 1) := by decide +kernel
theorem dX8_begin_6 : decode cX8_begin 6 = .ok (.iload_n 1, 1) := by decide +kernel
theorem dX8_begin_7 : decode cX8_begin 7 = .ok (.putfield 15, 3) := by decide +kernel
theorem dX8_begin_10 : decode cX8_begin 10 = .ok (.aload_n 0, 1) := by decide +kernel
theorem dX8_begin_11 : decode cX8_begin 11 = .ok (.iload_n 2, 1) := by decide +kernel
theorem dX8_begin_12 : decode cX8_begin 12 = .ok (.putfield 19, 3) := by decide +kernel
theorem dX8_begin_15 : decode cX8_begin 15 = .ok (.aload_n 0, 1) := by decide +kernel
theorem dX8_begin_16 : decode cX8_begin 16 = .ok (.iload_n 3, 1) := by decide +kernel
theorem dX8_begin_17 : decode cX8_begin 17 = .ok (.putfield 22, 3) := by decide +kernel
theorem dX8_begin_20 : decode cX8_begin 20 = .ok (.aload_n 0, 1) := by decide +kernel
theorem dX8_begin_21 : decode cX8_begin 21 = .ok (.iconst 0, 1) := by decide +kernel
theorem dX8_begin_22 : decode cX8_begin 22 = .ok (.putfield 25, 3) := by decide +kernel
theorem dX8_begin_25 : decode cX8_begin 25 = .ok (.return_, 1) := by decide +kernel
theorem dX8_end_0 : decode cX8_end 0 = .ok (.aload_n 0, 1) := by decide +kernel
theorem dX8_end_1 : decode cX8_end 1 = .ok (.iconst 0, 1) := by decide +kernel
theorem dX8_end_2 : decode cX8_end 2 = .ok (.putfield 9, 3) := by decide +kernel
theorem dX8_end_5 : decode cX8_end 5 = .ok (.return_, 1) := by decide +kernel
theorem dX8_letPass_0 : decode cX8_letPass 0 = .ok (.aload_n 0, 1) := by decide +kernel
theorem dX8_letPass_1 : decode cX8_letPass 1 = .ok (.aload_n 0, 1) := by decide +kernel
theorem dX8_letPass_2 : decode cX8_letPass 2 = .ok (.getfield 25, 3) := by decide +kernel
theorem dX8_letPass_5 : decode cX8_letPass 5 = .ok (.iload_n 1, 1) := by decide +kernel
theorem dX8_letPass_6 : decode cX8_letPass 6 = .ok (.iadd, 1) := by decide +kernel
theorem dX8_letPass_7 : decode cX8_letPass 7 = .ok (.bipush 11, 2) := by decide +kernel
theorem dX8_letPass_9 : decode cX8_letPass 9 = .ok (.invokestatic 28, 3) := by decide +kernel
theorem dX8_letPass_12 : decode cX8_letPass 12 = .ok (.putfield 25, 3) := by decide +kernel
theorem dX8_letPass_15 : decode cX8_letPass 15 = .ok (.return_, 1) := by decide +kernel
theorem dX8_statusOf_0 : decode cX8_statusOf 0 = .ok (.iload_n 3, 1) := by decide +kernel
theorem dX8_statusOf_1 : decode cX8_statusOf 1 = .ok (.iconst 4, 1) := by decide +kernel
theorem dX8_statusOf_2 : decode cX8_statusOf 2 = .ok (.if_icmp .lt 5, 3) := by decide +kernel
theorem dX8_statusOf_5 : decode cX8_statusOf 5 = .ok (.iconst 4, 1) := by decide +kernel
theorem dX8_statusOf_6 : decode cX8_statusOf 6 = .ok (.ireturn, 1) := by decide +kernel
theorem dX8_statusOf_7 : decode cX8_statusOf 7 = .ok (.iload 4, 2) := by decide +kernel
theorem dX8_statusOf_9 : decode cX8_statusOf 9 = .ok (.iconst 3, 1) := by decide +kernel
theorem dX8_statusOf_10 : decode cX8_statusOf 10 = .ok (.if_icmp .eq 11, 3) := by decide +kernel
theorem dX8_statusOf_13 : decode cX8_statusOf 13 = .ok (.iload 4, 2) := by decide +kernel
theorem dX8_statusOf_15 : decode cX8_statusOf 15 = .ok (.iconst 4, 1) := by decide +kernel
theorem dX8_statusOf_16 : decode cX8_statusOf 16 = .ok (.if_icmp .eq 5, 3) := by decide +kernel
theorem dX8_statusOf_19 : decode cX8_statusOf 19 = .ok (.iconst 3, 1) := by decide +kernel
theorem dX8_statusOf_20 : decode cX8_statusOf 20 = .ok (.ireturn, 1) := by decide +kernel
theorem dX8_statusOf_21 : decode cX8_statusOf 21 = .ok (.iload_n 1, 1) := by decide +kernel
theorem dX8_statusOf_22 : decode cX8_statusOf 22 = .ok (.iconst 4, 1) := by decide +kernel
theorem dX8_statusOf_23 : decode cX8_statusOf 23 = .ok (.if_icmp .eq 5, 3) := by decide +kernel
theorem dX8_statusOf_26 : decode cX8_statusOf 26 = .ok (.iconst 0, 1) := by decide +kernel
theorem dX8_statusOf_27 : decode cX8_statusOf 27 = .ok (.ireturn, 1) := by decide +kernel
theorem dX8_statusOf_28 : decode cX8_statusOf 28 = .ok (.aload_n 0, 1) := by decide +kernel
theorem dX8_statusOf_29 : decode cX8_statusOf 29 = .ok (.getfield 9, 3) := by decide +kernel
theorem dX8_statusOf_32 : decode cX8_statusOf 32 = .ok (.ifCond .eq 33, 3) := by decide +kernel
theorem dX8_statusOf_35 : decode cX8_statusOf 35 = .ok (.aload_n 0, 1) := by decide +kernel
theorem dX8_statusOf_36 : decode cX8_statusOf 36 = .ok (.getfield 19, 3) := by decide +kernel
theorem dX8_statusOf_39 : decode cX8_statusOf 39 = .ok (.iload_n 3, 1) := by decide +kernel
theorem dX8_statusOf_40 : decode cX8_statusOf 40 = .ok (.if_icmp .ne 25, 3) := by decide +kernel
theorem dX8_statusOf_43 : decode cX8_statusOf 43 = .ok (.aload_n 0, 1) := by decide +kernel
theorem dX8_statusOf_44 : decode cX8_statusOf 44 = .ok (.getfield 22, 3) := by decide +kernel
theorem dX8_statusOf_47 : decode cX8_statusOf 47 = .ok (.iload 4, 2) := by decide +kernel
theorem dX8_statusOf_49 : decode cX8_statusOf 49 = .ok (.if_icmp .ne 16, 3) := by decide +kernel
theorem dX8_statusOf_52 : decode cX8_statusOf 52 = .ok (.aload_n 0, 1) := by decide +kernel
theorem dX8_statusOf_53 : decode cX8_statusOf 53 = .ok (.getfield 15, 3) := by decide +kernel
theorem dX8_statusOf_56 : decode cX8_statusOf 56 = .ok (.iconst 1, 1) := by decide +kernel
theorem dX8_statusOf_57 : decode cX8_statusOf 57 = .ok (.iadd, 1) := by decide +kernel
theorem dX8_statusOf_58 : decode cX8_statusOf 58 = .ok (.bipush 16, 2) := by decide +kernel
theorem dX8_statusOf_60 : decode cX8_statusOf 60 = .ok (.irem, 1) := by decide +kernel
theorem dX8_statusOf_61 : decode cX8_statusOf 61 = .ok (.iload_n 2, 1) := by decide +kernel
theorem dX8_statusOf_62 : decode cX8_statusOf 62 = .ok (.if_icmp .eq 5, 3) := by decide +kernel
theorem dX8_statusOf_65 : decode cX8_statusOf 65 = .ok (.iconst 2, 1) := by decide +kernel
theorem dX8_statusOf_66 : decode cX8_statusOf 66 = .ok (.ireturn, 1) := by decide +kernel
theorem dX8_statusOf_67 : decode cX8_statusOf 67 = .ok (.aload_n 0, 1) := by decide +kernel
theorem dX8_statusOf_68 : decode cX8_statusOf 68 = .ok (.getfield 25, 3) := by decide +kernel
theorem dX8_statusOf_71 : decode cX8_statusOf 71 = .ok (.bipush 10, 2) := by decide +kernel
theorem dX8_statusOf_73 : decode cX8_statusOf 73 = .ok (.if_icmp .le 7, 3) := by decide +kernel
theorem dX8_statusOf_76 : decode cX8_statusOf 76 = .ok (.iconst 1, 1) := by decide +kernel
theorem dX8_statusOf_77 : decode cX8_statusOf 77 = .ok (.goto 4, 3) := by decide +kernel
theorem dX8_statusOf_80 : decode cX8_statusOf 80 = .ok (.iconst 0, 1) := by decide +kernel
theorem dX8_statusOf_81 : decode cX8_statusOf 81 = .ok (.ireturn, 1) := by decide +kernel
theorem dX9_init_0 : decode cX9_init 0 = .ok (.aload_n 0, 1) := by decide +kernel
theorem dX9_init_1 : decode cX9_init 1 = .ok (.invokespecial 3, 3) := by decide +kernel
theorem dX9_init_4 : decode cX9_init 4 = .ok (.aload_n 0, 1) := by decide +kernel
theorem dX9_init_5 : decode cX9_init 5 = .ok (.sipush 256, 3) := by decide +kernel
theorem dX9_init_8 : decode cX9_init 8 = .ok (.newarray .int, 2) := by decide +kernel
theorem dX9_init_10 : decode cX9_init 10 = .ok (.putfield 9, 3) := by decide +kernel
theorem dX9_init_13 : decode cX9_init 13 = .ok (.aload_n 0, 1) := by decide +kernel
theorem dX9_init_14 : decode cX9_init 14 = .ok (.new 15, 3) := by decide +kernel
theorem dX9_init_17 : decode cX9_init 17 = .ok (.dup, 1) := by decide +kernel
theorem dX9_init_18 : decode cX9_init 18 = .ok (.invokespecial 17, 3) := by decide +kernel
theorem dX9_init_21 : decode cX9_init 21 = .ok (.putfield 18, 3) := by decide +kernel
theorem dX9_init_24 : decode cX9_init 24 = .ok (.aload_n 0, 1) := by decide +kernel
theorem dX9_init_25 : decode cX9_init 25 = .ok (.iconst 0, 1) := by decide +kernel
theorem dX9_init_26 : decode cX9_init 26 = .ok (.putfield 22, 3) := by decide +kernel
theorem dX9_init_29 : decode cX9_init 29 = .ok (.aload_n 0, 1) := by decide +kernel
theorem dX9_init_30 : decode cX9_init 30 = .ok (.iconst 0, 1) := by decide +kernel
theorem dX9_init_31 : decode cX9_init 31 = .ok (.putfield 26, 3) := by decide +kernel
theorem dX9_init_34 : decode cX9_init 34 = .ok (.aload_n 0, 1) := by decide +kernel
theorem dX9_init_35 : decode cX9_init 35 = .ok (.iconst 0, 1) := by decide +kernel
theorem dX9_init_36 : decode cX9_init 36 = .ok (.putfield 29, 3) := by decide +kernel
theorem dX9_init_39 : decode cX9_init 39 = .ok (.return_, 1) := by decide +kernel
theorem dX9_total_0 : decode cX9_total 0 = .ok (.aload_n 0, 1) := by decide +kernel
theorem dX9_total_1 : decode cX9_total 1 = .ok (.getfield 22, 3) := by decide +kernel
theorem dX9_total_4 : decode cX9_total 4 = .ok (.ireturn, 1) := by decide +kernel
theorem dX9_keeps_0 : decode cX9_keeps 0 = .ok (.iload_n 1, 1) := by decide +kernel
theorem dX9_keeps_1 : decode cX9_keeps 1 = .ok (.ifCond .lt 22, 3) := by decide +kernel
theorem dX9_keeps_4 : decode cX9_keeps 4 = .ok (.iload_n 1, 1) := by decide +kernel
theorem dX9_keeps_5 : decode cX9_keeps 5 = .ok (.sipush 256, 3) := by decide +kernel
theorem dX9_keeps_8 : decode cX9_keeps 8 = .ok (.if_icmp .ge 15, 3) := by decide +kernel
theorem dX9_keeps_11 : decode cX9_keeps 11 = .ok (.iload_n 1, 1) := by decide +kernel
theorem dX9_keeps_12 : decode cX9_keeps 12 = .ok (.aload_n 0, 1) := by decide +kernel
theorem dX9_keeps_13 : decode cX9_keeps 13 = .ok (.getfield 22, 3) := by decide +kernel
theorem dX9_keeps_16 : decode cX9_keeps 16 = .ok (.if_icmp .ge 7, 3) := by decide +kernel
theorem dX9_keeps_19 : decode cX9_keeps 19 = .ok (.iconst 1, 1) := by decide +kernel
theorem dX9_keeps_20 : decode cX9_keeps 20 = .ok (.goto 4, 3) := by decide +kernel
theorem dX9_keeps_23 : decode cX9_keeps 23 = .ok (.iconst 0, 1) := by decide +kernel
theorem dX9_keeps_24 : decode cX9_keeps 24 = .ok (.ireturn, 1) := by decide +kernel
theorem dX9_latest_0 : decode cX9_latest 0 = .ok (.aload_n 0, 1) := by decide +kernel
theorem dX9_latest_1 : decode cX9_latest 1 = .ok (.iload_n 1, 1) := by decide +kernel
theorem dX9_latest_2 : decode cX9_latest 2 = .ok (.invokevirtual 32, 3) := by decide +kernel
theorem dX9_latest_5 : decode cX9_latest 5 = .ok (.ifCond .eq 27, 3) := by decide +kernel
theorem dX9_latest_8 : decode cX9_latest 8 = .ok (.aload_n 0, 1) := by decide +kernel
theorem dX9_latest_9 : decode cX9_latest 9 = .ok (.getfield 9, 3) := by decide +kernel
theorem dX9_latest_12 : decode cX9_latest 12 = .ok (.aload_n 0, 1) := by decide +kernel
theorem dX9_latest_13 : decode cX9_latest 13 = .ok (.getfield 26, 3) := by decide +kernel
theorem dX9_latest_16 : decode cX9_latest 16 = .ok (.sipush 256, 3) := by decide +kernel
theorem dX9_latest_19 : decode cX9_latest 19 = .ok (.iadd, 1) := by decide +kernel
theorem dX9_latest_20 : decode cX9_latest 20 = .ok (.iconst 1, 1) := by decide +kernel
theorem dX9_latest_21 : decode cX9_latest 21 = .ok (.isub, 1) := by decide +kernel
theorem dX9_latest_22 : decode cX9_latest 22 = .ok (.iload_n 1, 1) := by decide +kernel
theorem dX9_latest_23 : decode cX9_latest 23 = .ok (.isub, 1) := by decide +kernel
theorem dX9_latest_24 : decode cX9_latest 24 = .ok (.sipush 256, 3) := by decide +kernel
theorem dX9_latest_27 : decode cX9_latest 27 = .ok (.irem, 1) := by decide +kernel
theorem dX9_latest_28 : decode cX9_latest 28 = .ok (.iaload, 1) := by decide +kernel
theorem dX9_latest_29 : decode cX9_latest 29 = .ok (.goto 4, 3) := by decide +kernel
theorem dX9_latest_32 : decode cX9_latest 32 = .ok (.iconst 0, 1) := by decide +kernel
theorem dX9_latest_33 : decode cX9_latest 33 = .ok (.ireturn, 1) := by decide +kernel
theorem dX9_sendAnswer_0 : decode cX9_sendAnswer 0 = .ok (.iconst 0, 1) := by decide +kernel
theorem dX9_sendAnswer_1 : decode cX9_sendAnswer 1 = .ok (.istore_n 3, 1) := by decide +kernel
theorem dX9_sendAnswer_2 : decode cX9_sendAnswer 2 = .ok (.iload_n 3, 1) := by decide +kernel
theorem dX9_sendAnswer_3 : decode cX9_sendAnswer 3 = .ok (.aload_n 1, 1) := by decide +kernel
theorem dX9_sendAnswer_4 : decode cX9_sendAnswer 4 = .ok (.invokevirtual 36, 3) := by decide +kernel
theorem dX9_sendAnswer_7 : decode cX9_sendAnswer 7 = .ok (.if_icmp .ge 39, 3) := by decide +kernel
theorem dX9_sendAnswer_10 : decode cX9_sendAnswer 10 = .ok (.aload_n 1, 1) := by decide +kernel
theorem dX9_sendAnswer_11 : decode cX9_sendAnswer 11 = .ok (.invokevirtual 36, 3) := by decide +kernel
theorem dX9_sendAnswer_14 : decode cX9_sendAnswer 14 = .ok (.iload_n 3, 1) := by decide +kernel
theorem dX9_sendAnswer_15 : decode cX9_sendAnswer 15 = .ok (.isub, 1) := by decide +kernel
theorem dX9_sendAnswer_16 : decode cX9_sendAnswer 16 = .ok (.bipush 39, 2) := by decide +kernel
theorem dX9_sendAnswer_18 : decode cX9_sendAnswer 18 = .ok (.invokestatic 42, 3) := by decide +kernel
theorem dX9_sendAnswer_21 : decode cX9_sendAnswer 21 = .ok (.istore 4, 2) := by decide +kernel
theorem dX9_sendAnswer_23 : decode cX9_sendAnswer 23 = .ok (.aload_n 0, 1) := by decide +kernel
theorem dX9_sendAnswer_24 : decode cX9_sendAnswer 24 = .ok (.iconst 1, 1) := by decide +kernel
theorem dX9_sendAnswer_25 : decode cX9_sendAnswer 25 = .ok (.iload 4, 2) := by decide +kernel
theorem dX9_sendAnswer_27 : decode cX9_sendAnswer 27 = .ok (.iadd, 1) := by decide +kernel
theorem dX9_sendAnswer_28 : decode cX9_sendAnswer 28 = .ok (.iload_n 2, 1) := by decide +kernel
theorem dX9_sendAnswer_29 : decode cX9_sendAnswer 29 = .ok (.invokevirtual 48, 3) := by decide +kernel
theorem dX9_sendAnswer_32 : decode cX9_sendAnswer 32 = .ok (.aload_n 0, 1) := by decide +kernel
theorem dX9_sendAnswer_33 : decode cX9_sendAnswer 33 = .ok (.aload_n 1, 1) := by decide +kernel
theorem dX9_sendAnswer_34 : decode cX9_sendAnswer 34 = .ok (.iload_n 3, 1) := by decide +kernel
theorem dX9_sendAnswer_35 : decode cX9_sendAnswer 35 = .ok (.iload 4, 2) := by decide +kernel
theorem dX9_sendAnswer_37 : decode cX9_sendAnswer 37 = .ok (.invokevirtual 52, 3) := by decide +kernel
theorem dX9_sendAnswer_40 : decode cX9_sendAnswer 40 = .ok (.iinc 3 39, 3) := by decide +kernel
theorem dX9_sendAnswer_43 : decode cX9_sendAnswer 43 = .ok (.goto (-41), 3) := by decide +kernel
theorem dX9_sendAnswer_46 : decode cX9_sendAnswer 46 = .ok (.return_, 1) := by decide +kernel
theorem dX9_sendHead_0 : decode cX9_sendHead 0 = .ok (.aload_n 0, 1) := by decide +kernel
theorem dX9_sendHead_1 : decode cX9_sendHead 1 = .ok (.getfield 18, 3) := by decide +kernel
theorem dX9_sendHead_4 : decode cX9_sendHead 4 = .ok (.invokevirtual 56, 3) := by decide +kernel
theorem dX9_sendHead_7 : decode cX9_sendHead 7 = .ok (.aload_n 0, 1) := by decide +kernel
theorem dX9_sendHead_8 : decode cX9_sendHead 8 = .ok (.iconst 5, 1) := by decide +kernel
theorem dX9_sendHead_9 : decode cX9_sendHead 9 = .ok (.invokevirtual 59, 3) := by decide +kernel
theorem dX9_sendHead_12 : decode cX9_sendHead 12 = .ok (.aload_n 0, 1) := by decide +kernel
theorem dX9_sendHead_13 : decode cX9_sendHead 13 = .ok (.bipush 100, 2) := by decide +kernel
theorem dX9_sendHead_15 : decode cX9_sendHead 15 = .ok (.invokevirtual 59, 3) := by decide +kernel
theorem dX9_sendHead_18 : decode cX9_sendHead 18 = .ok (.aload_n 0, 1) := by decide +kernel
theorem dX9_sendHead_19 : decode cX9_sendHead 19 = .ok (.iconst 5, 1) := by decide +kernel
theorem dX9_sendHead_20 : decode cX9_sendHead 20 = .ok (.iload_n 1, 1) := by decide +kernel
theorem dX9_sendHead_21 : decode cX9_sendHead 21 = .ok (.iadd, 1) := by decide +kernel
theorem dX9_sendHead_22 : decode cX9_sendHead 22 = .ok (.invokevirtual 59, 3) := by decide +kernel
theorem dX9_sendHead_25 : decode cX9_sendHead 25 = .ok (.aload_n 0, 1) := by decide +kernel
theorem dX9_sendHead_26 : decode cX9_sendHead 26 = .ok (.bipush 68, 2) := by decide +kernel
theorem dX9_sendHead_28 : decode cX9_sendHead 28 = .ok (.invokevirtual 59, 3) := by decide +kernel
theorem dX9_sendHead_31 : decode cX9_sendHead 31 = .ok (.aload_n 0, 1) := by decide +kernel
theorem dX9_sendHead_32 : decode cX9_sendHead 32 = .ok (.iload_n 2, 1) := by decide +kernel
theorem dX9_sendHead_33 : decode cX9_sendHead 33 = .ok (.sipush 255, 3) := by decide +kernel
theorem dX9_sendHead_36 : decode cX9_sendHead 36 = .ok (.iand, 1) := by decide +kernel
theorem dX9_sendHead_37 : decode cX9_sendHead 37 = .ok (.invokevirtual 59, 3) := by decide +kernel
theorem dX9_sendHead_40 : decode cX9_sendHead 40 = .ok (.aload_n 0, 1) := by decide +kernel
theorem dX9_sendHead_41 : decode cX9_sendHead 41 = .ok (.iload_n 2, 1) := by decide +kernel
theorem dX9_sendHead_42 : decode cX9_sendHead 42 = .ok (.bipush 8, 2) := by decide +kernel
theorem dX9_sendHead_44 : decode cX9_sendHead 44 = .ok (.ishr, 1) := by decide +kernel
theorem dX9_sendHead_45 : decode cX9_sendHead 45 = .ok (.invokevirtual 59, 3) := by decide +kernel
theorem dX9_sendHead_48 : decode cX9_sendHead 48 = .ok (.aload_n 0, 1) := by decide +kernel
theorem dX9_sendHead_49 : decode cX9_sendHead 49 = .ok (.bipush 10, 2) := by decide +kernel
theorem dX9_sendHead_51 : decode cX9_sendHead 51 = .ok (.invokevirtual 59, 3) := by decide +kernel
theorem dX9_sendHead_54 : decode cX9_sendHead 54 = .ok (.aload_n 0, 1) := by decide +kernel
theorem dX9_sendHead_55 : decode cX9_sendHead 55 = .ok (.iconst 0, 1) := by decide +kernel
theorem dX9_sendHead_56 : decode cX9_sendHead 56 = .ok (.invokevirtual 59, 3) := by decide +kernel
theorem dX9_sendHead_59 : decode cX9_sendHead 59 = .ok (.aload_n 0, 1) := by decide +kernel
theorem dX9_sendHead_60 : decode cX9_sendHead 60 = .ok (.invokevirtual 63, 3) := by decide +kernel
theorem dX9_sendHead_63 : decode cX9_sendHead 63 = .ok (.return_, 1) := by decide +kernel
theorem dX9_sendPart_0 : decode cX9_sendPart 0 = .ok (.iload_n 2, 1) := by decide +kernel
theorem dX9_sendPart_1 : decode cX9_sendPart 1 = .ok (.iload_n 3, 1) := by decide +kernel
theorem dX9_sendPart_2 : decode cX9_sendPart 2 = .ok (.iadd, 1) := by decide +kernel
theorem dX9_sendPart_3 : decode cX9_sendPart 3 = .ok (.aload_n 1, 1) := by decide +kernel
theorem dX9_sendPart_4 : decode cX9_sendPart 4 = .ok (.invokevirtual 36, 3) := by decide +kernel
theorem dX9_sendPart_7 : decode cX9_sendPart 7 = .ok (.if_icmp .ne 7, 3) := by decide +kernel
theorem dX9_sendPart_10 : decode cX9_sendPart 10 = .ok (.iconst 1, 1) := by decide +kernel
theorem dX9_sendPart_11 : decode cX9_sendPart 11 = .ok (.goto 4, 3) := by decide +kernel
theorem dX9_sendPart_14 : decode cX9_sendPart 14 = .ok (.iconst 0, 1) := by decide +kernel
theorem dX9_sendPart_15 : decode cX9_sendPart 15 = .ok (.istore 4, 2) := by decide +kernel
theorem dX9_sendPart_17 : decode cX9_sendPart 17 = .ok (.aload_n 0, 1) := by decide +kernel
theorem dX9_sendPart_18 : decode cX9_sendPart 18 = .ok (.iload_n 2, 1) := by decide +kernel
theorem dX9_sendPart_19 : decode cX9_sendPart 19 = .ok (.ifCond .ne 8, 3) := by decide +kernel
theorem dX9_sendPart_22 : decode cX9_sendPart 22 = .ok (.bipush 64, 2) := by decide +kernel
theorem dX9_sendPart_24 : decode cX9_sendPart 24 = .ok (.goto 4, 3) := by decide +kernel
theorem dX9_sendPart_27 : decode cX9_sendPart 27 = .ok (.iconst 0, 1) := by decide +kernel
theorem dX9_sendPart_28 : decode cX9_sendPart 28 = .ok (.iload 4, 2) := by decide +kernel
theorem dX9_sendPart_30 : decode cX9_sendPart 30 = .ok (.ifCond .eq 9, 3) := by decide +kernel
theorem dX9_sendPart_33 : decode cX9_sendPart 33 = .ok (.sipush 128, 3) := by decide +kernel
theorem dX9_sendPart_36 : decode cX9_sendPart 36 = .ok (.goto 4, 3) := by decide +kernel
theorem dX9_sendPart_39 : decode cX9_sendPart 39 = .ok (.iconst 0, 1) := by decide +kernel
theorem dX9_sendPart_40 : decode cX9_sendPart 40 = .ok (.iadd, 1) := by decide +kernel
theorem dX9_sendPart_41 : decode cX9_sendPart 41 = .ok (.aload_n 0, 1) := by decide +kernel
theorem dX9_sendPart_42 : decode cX9_sendPart 42 = .ok (.getfield 29, 3) := by decide +kernel
theorem dX9_sendPart_45 : decode cX9_sendPart 45 = .ok (.iadd, 1) := by decide +kernel
theorem dX9_sendPart_46 : decode cX9_sendPart 46 = .ok (.invokevirtual 59, 3) := by decide +kernel
theorem dX9_sendPart_49 : decode cX9_sendPart 49 = .ok (.aload_n 0, 1) := by decide +kernel
theorem dX9_sendPart_50 : decode cX9_sendPart 50 = .ok (.aload_n 0, 1) := by decide +kernel
theorem dX9_sendPart_51 : decode cX9_sendPart 51 = .ok (.getfield 29, 3) := by decide +kernel
theorem dX9_sendPart_54 : decode cX9_sendPart 54 = .ok (.iconst 1, 1) := by decide +kernel
theorem dX9_sendPart_55 : decode cX9_sendPart 55 = .ok (.iadd, 1) := by decide +kernel
theorem dX9_sendPart_56 : decode cX9_sendPart 56 = .ok (.bipush 64, 2) := by decide +kernel
theorem dX9_sendPart_58 : decode cX9_sendPart 58 = .ok (.irem, 1) := by decide +kernel
theorem dX9_sendPart_59 : decode cX9_sendPart 59 = .ok (.putfield 29, 3) := by decide +kernel
theorem dX9_sendPart_62 : decode cX9_sendPart 62 = .ok (.iconst 0, 1) := by decide +kernel
theorem dX9_sendPart_63 : decode cX9_sendPart 63 = .ok (.istore 5, 2) := by decide +kernel
theorem dX9_sendPart_65 : decode cX9_sendPart 65 = .ok (.iload 5, 2) := by decide +kernel
theorem dX9_sendPart_67 : decode cX9_sendPart 67 = .ok (.iload_n 3, 1) := by decide +kernel
theorem dX9_sendPart_68 : decode cX9_sendPart 68 = .ok (.if_icmp .ge 35, 3) := by decide +kernel
theorem dX9_sendPart_71 : decode cX9_sendPart 71 = .ok (.iload 5, 2) := by decide +kernel
theorem dX9_sendPart_73 : decode cX9_sendPart 73 = .ok (.iconst 1, 1) := by decide +kernel
theorem dX9_sendPart_74 : decode cX9_sendPart 74 = .ok (.iadd, 1) := by decide +kernel
theorem dX9_sendPart_75 : decode cX9_sendPart 75 = .ok (.bipush 16, 2) := by decide +kernel
theorem dX9_sendPart_77 : decode cX9_sendPart 77 = .ok (.irem, 1) := by decide +kernel
theorem dX9_sendPart_78 : decode cX9_sendPart 78 = .ok (.ifCond .ne 7, 3) := by decide +kernel
theorem dX9_sendPart_81 : decode cX9_sendPart 81 = .ok (.aload_n 0, 1) := by decide +kernel
theorem dX9_sendPart_82 : decode cX9_sendPart 82 = .ok (.invokevirtual 63, 3) := by decide +kernel
theorem dX9_sendPart_85 : decode cX9_sendPart 85 = .ok (.aload_n 0, 1) := by decide +kernel
theorem dX9_sendPart_86 : decode cX9_sendPart 86 = .ok (.aload_n 1, 1) := by decide +kernel
theorem dX9_sendPart_87 : decode cX9_sendPart 87 = .ok (.iload_n 2, 1) := by decide +kernel
theorem dX9_sendPart_88 : decode cX9_sendPart 88 = .ok (.iload 5, 2) := by decide +kernel
theorem dX9_sendPart_90 : decode cX9_sendPart 90 = .ok (.iadd, 1) := by decide +kernel
theorem dX9_sendPart_91 : decode cX9_sendPart 91 = .ok (.invokevirtual 66, 3) := by decide +kernel
theorem dX9_sendPart_94 : decode cX9_sendPart 94 = .ok (.invokevirtual 59, 3) := by decide +kernel
theorem dX9_sendPart_97 : decode cX9_sendPart 97 = .ok (.iinc 5 1, 3) := by decide +kernel
theorem dX9_sendPart_100 : decode cX9_sendPart 100 = .ok (.goto (-35), 3) := by decide +kernel
theorem dX9_sendPart_103 : decode cX9_sendPart 103 = .ok (.aload_n 0, 1) := by decide +kernel
theorem dX9_sendPart_104 : decode cX9_sendPart 104 = .ok (.invokevirtual 63, 3) := by decide +kernel
theorem dX9_sendPart_107 : decode cX9_sendPart 107 = .ok (.return_, 1) := by decide +kernel
theorem dX9_sendSummed_0 : decode cX9_sendSummed 0 = .ok (.aload_n 0, 1) := by decide +kernel
theorem dX9_sendSummed_1 : decode cX9_sendSummed 1 = .ok (.getfield 18, 3) := by decide +kernel
theorem dX9_sendSummed_4 : decode cX9_sendSummed 4 = .ok (.iload_n 1, 1) := by decide +kernel
theorem dX9_sendSummed_5 : decode cX9_sendSummed 5 = .ok (.invokevirtual 70, 3) := by decide +kernel
theorem dX9_sendSummed_8 : decode cX9_sendSummed 8 = .ok (.aload_n 0, 1) := by decide +kernel
theorem dX9_sendSummed_9 : decode cX9_sendSummed 9 = .ok (.iload_n 1, 1) := by decide +kernel
theorem dX9_sendSummed_10 : decode cX9_sendSummed 10 = .ok (.invokevirtual 73, 3) := by decide +kernel
theorem dX9_sendSummed_13 : decode cX9_sendSummed 13 = .ok (.return_, 1) := by decide +kernel
theorem dX9_sendSum_0 : decode cX9_sendSum 0 = .ok (.aload_n 0, 1) := by decide +kernel
theorem dX9_sendSum_1 : decode cX9_sendSum 1 = .ok (.getfield 18, 3) := by decide +kernel
theorem dX9_sendSum_4 : decode cX9_sendSum 4 = .ok (.invokevirtual 76, 3) := by decide +kernel
theorem dX9_sendSum_7 : decode cX9_sendSum 7 = .ok (.istore_n 1, 1) := by decide +kernel
theorem dX9_sendSum_8 : decode cX9_sendSum 8 = .ok (.aload_n 0, 1) := by decide +kernel
theorem dX9_sendSum_9 : decode cX9_sendSum 9 = .ok (.iload_n 1, 1) := by decide +kernel
theorem dX9_sendSum_10 : decode cX9_sendSum 10 = .ok (.sipush 255, 3) := by decide +kernel
theorem dX9_sendSum_13 : decode cX9_sendSum 13 = .ok (.iand, 1) := by decide +kernel
theorem dX9_sendSum_14 : decode cX9_sendSum 14 = .ok (.invokevirtual 73, 3) := by decide +kernel
theorem dX9_sendSum_17 : decode cX9_sendSum 17 = .ok (.aload_n 0, 1) := by decide +kernel
theorem dX9_sendSum_18 : decode cX9_sendSum 18 = .ok (.iload_n 1, 1) := by decide +kernel
theorem dX9_sendSum_19 : decode cX9_sendSum 19 = .ok (.bipush 8, 2) := by decide +kernel
theorem dX9_sendSum_21 : decode cX9_sendSum 21 = .ok (.ishr, 1) := by decide +kernel
theorem dX9_sendSum_22 : decode cX9_sendSum 22 = .ok (.invokevirtual 73, 3) := by decide +kernel
theorem dX9_sendSum_25 : decode cX9_sendSum 25 = .ok (.aload_n 0, 1) := by decide +kernel
theorem dX9_sendSum_26 : decode cX9_sendSum 26 = .ok (.getfield 18, 3) := by decide +kernel
theorem dX9_sendSum_29 : decode cX9_sendSum 29 = .ok (.invokevirtual 56, 3) := by decide +kernel
theorem dX9_sendSum_32 : decode cX9_sendSum 32 = .ok (.return_, 1) := by decide +kernel
theorem dX9_send_0 : decode cX9_send 0 = .ok (.aload_n 0, 1) := by decide +kernel
theorem dX9_send_1 : decode cX9_send 1 = .ok (.getfield 26, 3) := by decide +kernel
theorem dX9_send_4 : decode cX9_send 4 = .ok (.ifCond .lt 27, 3) := by decide +kernel
theorem dX9_send_7 : decode cX9_send 7 = .ok (.aload_n 0, 1) := by decide +kernel
theorem dX9_send_8 : decode cX9_send 8 = .ok (.getfield 26, 3) := by decide +kernel
theorem dX9_send_11 : decode cX9_send 11 = .ok (.sipush 256, 3) := by decide +kernel
theorem dX9_send_14 : decode cX9_send 14 = .ok (.if_icmp .ge 17, 3) := by decide +kernel
theorem dX9_send_17 : decode cX9_send 17 = .ok (.aload_n 0, 1) := by decide +kernel
theorem dX9_send_18 : decode cX9_send 18 = .ok (.getfield 9, 3) := by decide +kernel
theorem dX9_send_21 : decode cX9_send 21 = .ok (.aload_n 0, 1) := by decide +kernel
theorem dX9_send_22 : decode cX9_send 22 = .ok (.getfield 26, 3) := by decide +kernel
theorem dX9_send_25 : decode cX9_send 25 = .ok (.iload_n 1, 1) := by decide +kernel
theorem dX9_send_26 : decode cX9_send 26 = .ok (.sipush 255, 3) := by decide +kernel
theorem dX9_send_29 : decode cX9_send 29 = .ok (.iand, 1) := by decide +kernel
theorem dX9_send_30 : decode cX9_send 30 = .ok (.iastore, 1) := by decide +kernel
theorem dX9_send_31 : decode cX9_send 31 = .ok (.aload_n 0, 1) := by decide +kernel
theorem dX9_send_32 : decode cX9_send 32 = .ok (.aload_n 0, 1) := by decide +kernel
theorem dX9_send_33 : decode cX9_send 33 = .ok (.getfield 26, 3) := by decide +kernel
theorem dX9_send_36 : decode cX9_send 36 = .ok (.iconst 1, 1) := by decide +kernel
theorem dX9_send_37 : decode cX9_send 37 = .ok (.iadd, 1) := by decide +kernel
theorem dX9_send_38 : decode cX9_send 38 = .ok (.sipush 256, 3) := by decide +kernel
theorem dX9_send_41 : decode cX9_send 41 = .ok (.irem, 1) := by decide +kernel
theorem dX9_send_42 : decode cX9_send 42 = .ok (.putfield 26, 3) := by decide +kernel
theorem dX9_send_45 : decode cX9_send 45 = .ok (.aload_n 0, 1) := by decide +kernel
theorem dX9_send_46 : decode cX9_send 46 = .ok (.dup, 1) := by decide +kernel
theorem dX9_send_47 : decode cX9_send 47 = .ok (.getfield 22, 3) := by decide +kernel
theorem dX9_send_50 : decode cX9_send 50 = .ok (.iconst 1, 1) := by decide +kernel
theorem dX9_send_51 : decode cX9_send 51 = .ok (.iadd, 1) := by decide +kernel
theorem dX9_send_52 : decode cX9_send 52 = .ok (.putfield 22, 3) := by decide +kernel
theorem dX9_send_55 : decode cX9_send 55 = .ok (.return_, 1) := by decide +kernel
theorem dX10_init_0 : decode cX10_init 0 = .ok (.aload_n 0, 1) := by decide +kernel
theorem dX10_init_1 : decode cX10_init 1 = .ok (.invokespecial 1, 3) := by decide +kernel
theorem dX10_init_4 : decode cX10_init 4 = .ok (.return_, 1) := by decide +kernel
theorem dX10_clear_0 : decode cX10_clear 0 = .ok (.aload_n 0, 1) := by decide +kernel
theorem dX10_clear_1 : decode cX10_clear 1 = .ok (.iconst 0, 1) := by decide +kernel
theorem dX10_clear_2 : decode cX10_clear 2 = .ok (.putfield 7, 3) := by decide +kernel
theorem dX10_clear_5 : decode cX10_clear 5 = .ok (.return_, 1) := by decide +kernel
theorem dX10_add_0 : decode cX10_add 0 = .ok (.aload_n 0, 1) := by decide +kernel
theorem dX10_add_1 : decode cX10_add 1 = .ok (.dup, 1) := by decide +kernel
theorem dX10_add_2 : decode cX10_add 2 = .ok (.getfield 7, 3) := by decide +kernel
theorem dX10_add_5 : decode cX10_add 5 = .ok (.iload_n 1, 1) := by decide +kernel
theorem dX10_add_6 : decode cX10_add 6 = .ok (.sipush 255, 3) := by decide +kernel
theorem dX10_add_9 : decode cX10_add 9 = .ok (.iand, 1) := by decide +kernel
theorem dX10_add_10 : decode cX10_add 10 = .ok (.ixor, 1) := by decide +kernel
theorem dX10_add_11 : decode cX10_add 11 = .ok (.putfield 7, 3) := by decide +kernel
theorem dX10_add_14 : decode cX10_add 14 = .ok (.iconst 0, 1) := by decide +kernel
theorem dX10_add_15 : decode cX10_add 15 = .ok (.istore_n 2, 1) := by decide +kernel
theorem dX10_add_16 : decode cX10_add 16 = .ok (.iload_n 2, 1) := by decide +kernel
theorem dX10_add_17 : decode cX10_add 17 = .ok (.bipush 8, 2) := by decide +kernel
theorem dX10_add_19 : decode cX10_add 19 = .ok (.if_icmp .ge 49, 3) := by decide +kernel
theorem dX10_add_22 : decode cX10_add 22 = .ok (.aload_n 0, 1) := by decide +kernel
theorem dX10_add_23 : decode cX10_add 23 = .ok (.getfield 7, 3) := by decide +kernel
theorem dX10_add_26 : decode cX10_add 26 = .ok (.iconst 1, 1) := by decide +kernel
theorem dX10_add_27 : decode cX10_add 27 = .ok (.iand, 1) := by decide +kernel
theorem dX10_add_28 : decode cX10_add 28 = .ok (.ifCond .eq 7, 3) := by decide +kernel
theorem dX10_add_31 : decode cX10_add 31 = .ok (.iconst 1, 1) := by decide +kernel
theorem dX10_add_32 : decode cX10_add 32 = .ok (.goto 4, 3) := by decide +kernel
theorem dX10_add_35 : decode cX10_add 35 = .ok (.iconst 0, 1) := by decide +kernel
theorem dX10_add_36 : decode cX10_add 36 = .ok (.istore_n 3, 1) := by decide +kernel
theorem dX10_add_37 : decode cX10_add 37 = .ok (.aload_n 0, 1) := by decide +kernel
theorem dX10_add_38 : decode cX10_add 38 = .ok (.dup, 1) := by decide +kernel
theorem dX10_add_39 : decode cX10_add 39 = .ok (.getfield 7, 3) := by decide +kernel
theorem dX10_add_42 : decode cX10_add 42 = .ok (.iconst 1, 1) := by decide +kernel
theorem dX10_add_43 : decode cX10_add 43 = .ok (.iushr, 1) := by decide +kernel
theorem dX10_add_44 : decode cX10_add 44 = .ok (.putfield 7, 3) := by decide +kernel
theorem dX10_add_47 : decode cX10_add 47 = .ok (.iload_n 3, 1) := by decide +kernel
theorem dX10_add_48 : decode cX10_add 48 = .ok (.ifCond .eq 14, 3) := by decide +kernel
theorem dX10_add_51 : decode cX10_add 51 = .ok (.aload_n 0, 1) := by decide +kernel
theorem dX10_add_52 : decode cX10_add 52 = .ok (.dup, 1) := by decide +kernel
theorem dX10_add_53 : decode cX10_add 53 = .ok (.getfield 7, 3) := by decide +kernel
theorem dX10_add_56 : decode cX10_add 56 = .ok (.ldc 13, 2) := by decide +kernel
theorem dX10_add_58 : decode cX10_add 58 = .ok (.ixor, 1) := by decide +kernel
theorem dX10_add_59 : decode cX10_add 59 = .ok (.putfield 7, 3) := by decide +kernel
theorem dX10_add_62 : decode cX10_add 62 = .ok (.iinc 2 1, 3) := by decide +kernel
theorem dX10_add_65 : decode cX10_add 65 = .ok (.goto (-49), 3) := by decide +kernel
theorem dX10_add_68 : decode cX10_add 68 = .ok (.return_, 1) := by decide +kernel
theorem dX10_value_0 : decode cX10_value 0 = .ok (.ldc 14, 2) := by decide +kernel
theorem dX10_value_2 : decode cX10_value 2 = .ok (.aload_n 0, 1) := by decide +kernel
theorem dX10_value_3 : decode cX10_value 3 = .ok (.getfield 7, 3) := by decide +kernel
theorem dX10_value_6 : decode cX10_value 6 = .ok (.isub, 1) := by decide +kernel
theorem dX10_value_7 : decode cX10_value 7 = .ok (.ireturn, 1) := by decide +kernel

theorem dX6_init_0 : decode cX6_init 0 = .ok (.aload_n 0, 1) := by decide +kernel
theorem dX6_init_1 : decode cX6_init 1 = .ok (.invokespecial 3, 3) := by decide +kernel
theorem dX6_init_4 : decode cX6_init 4 = .ok (.aload_n 0, 1) := by decide +kernel
theorem dX6_init_5 : decode cX6_init 5 = .ok (.bipush 36, 2) := by decide +kernel
theorem dX6_init_7 : decode cX6_init 7 = .ok (.newarray .int, 2) := by decide +kernel
theorem dX6_init_9 : decode cX6_init 9 = .ok (.putfield 9, 3) := by decide +kernel
theorem dX6_init_12 : decode cX6_init 12 = .ok (.return_, 1) := by decide +kernel
theorem dX6_begin_0 : decode cX6_begin 0 = .ok (.aload_n 0, 1) := by decide +kernel
theorem dX6_begin_1 : decode cX6_begin 1 = .ok (.iload_n 1, 1) := by decide +kernel
theorem dX6_begin_2 : decode cX6_begin 2 = .ok (.putfield 15, 3) := by decide +kernel
theorem dX6_begin_5 : decode cX6_begin 5 = .ok (.aload_n 0, 1) := by decide +kernel
theorem dX6_begin_6 : decode cX6_begin 6 = .ok (.iconst 0, 1) := by decide +kernel
theorem dX6_begin_7 : decode cX6_begin 7 = .ok (.putfield 19, 3) := by decide +kernel
theorem dX6_begin_10 : decode cX6_begin 10 = .ok (.aload_n 0, 1) := by decide +kernel
theorem dX6_begin_11 : decode cX6_begin 11 = .ok (.iload_n 2, 1) := by decide +kernel
theorem dX6_begin_12 : decode cX6_begin 12 = .ok (.putfield 22, 3) := by decide +kernel
theorem dX6_begin_15 : decode cX6_begin 15 = .ok (.aload_n 0, 1) := by decide +kernel
theorem dX6_begin_16 : decode cX6_begin 16 = .ok (.iconst 0, 1) := by decide +kernel
theorem dX6_begin_17 : decode cX6_begin 17 = .ok (.putfield 25, 3) := by decide +kernel
theorem dX6_begin_20 : decode cX6_begin 20 = .ok (.return_, 1) := by decide +kernel
theorem dX6_append_0 : decode cX6_append 0 = .ok (.iconst 3, 1) := by decide +kernel
theorem dX6_append_1 : decode cX6_append 1 = .ok (.aload_n 0, 1) := by decide +kernel
theorem dX6_append_2 : decode cX6_append 2 = .ok (.getfield 19, 3) := by decide +kernel
theorem dX6_append_5 : decode cX6_append 5 = .ok (.imul, 1) := by decide +kernel
theorem dX6_append_6 : decode cX6_append 6 = .ok (.istore 4, 2) := by decide +kernel
theorem dX6_append_8 : decode cX6_append 8 = .ok (.iload 4, 2) := by decide +kernel
theorem dX6_append_10 : decode cX6_append 10 = .ok (.ifCond .lt 15, 3) := by decide +kernel
theorem dX6_append_13 : decode cX6_append 13 = .ok (.iload 4, 2) := by decide +kernel
theorem dX6_append_15 : decode cX6_append 15 = .ok (.aload_n 0, 1) := by decide +kernel
theorem dX6_append_16 : decode cX6_append 16 = .ok (.getfield 9, 3) := by decide +kernel
theorem dX6_append_19 : decode cX6_append 19 = .ok (.arraylength, 1) := by decide +kernel
theorem dX6_append_20 : decode cX6_append 20 = .ok (.iconst 3, 1) := by decide +kernel
theorem dX6_append_21 : decode cX6_append 21 = .ok (.isub, 1) := by decide +kernel
theorem dX6_append_22 : decode cX6_append 22 = .ok (.if_icmp .le 5, 3) := by decide +kernel
theorem dX6_append_25 : decode cX6_append 25 = .ok (.iconst 0, 1) := by decide +kernel
theorem dX6_append_26 : decode cX6_append 26 = .ok (.ireturn, 1) := by decide +kernel
theorem dX6_append_27 : decode cX6_append 27 = .ok (.aload_n 0, 1) := by decide +kernel
theorem dX6_append_28 : decode cX6_append 28 = .ok (.getfield 9, 3) := by decide +kernel
theorem dX6_append_31 : decode cX6_append 31 = .ok (.iload 4, 2) := by decide +kernel
theorem dX6_append_33 : decode cX6_append 33 = .ok (.iload_n 1, 1) := by decide +kernel
theorem dX6_append_34 : decode cX6_append 34 = .ok (.iastore, 1) := by decide +kernel
theorem dX6_append_35 : decode cX6_append 35 = .ok (.aload_n 0, 1) := by decide +kernel
theorem dX6_append_36 : decode cX6_append 36 = .ok (.getfield 9, 3) := by decide +kernel
theorem dX6_append_39 : decode cX6_append 39 = .ok (.iload 4, 2) := by decide +kernel
theorem dX6_append_41 : decode cX6_append 41 = .ok (.iconst 1, 1) := by decide +kernel
theorem dX6_append_42 : decode cX6_append 42 = .ok (.iadd, 1) := by decide +kernel
theorem dX6_append_43 : decode cX6_append 43 = .ok (.iload_n 2, 1) := by decide +kernel
theorem dX6_append_44 : decode cX6_append 44 = .ok (.iastore, 1) := by decide +kernel
theorem dX6_append_45 : decode cX6_append 45 = .ok (.aload_n 0, 1) := by decide +kernel
theorem dX6_append_46 : decode cX6_append 46 = .ok (.getfield 9, 3) := by decide +kernel
theorem dX6_append_49 : decode cX6_append 49 = .ok (.iload 4, 2) := by decide +kernel
theorem dX6_append_51 : decode cX6_append 51 = .ok (.iconst 2, 1) := by decide +kernel
theorem dX6_append_52 : decode cX6_append 52 = .ok (.iadd, 1) := by decide +kernel
theorem dX6_append_53 : decode cX6_append 53 = .ok (.iload_n 3, 1) := by decide +kernel
theorem dX6_append_54 : decode cX6_append 54 = .ok (.iastore, 1) := by decide +kernel
theorem dX6_append_55 : decode cX6_append 55 = .ok (.aload_n 0, 1) := by decide +kernel
theorem dX6_append_56 : decode cX6_append 56 = .ok (.dup, 1) := by decide +kernel
theorem dX6_append_57 : decode cX6_append 57 = .ok (.getfield 19, 3) := by decide +kernel
theorem dX6_append_60 : decode cX6_append 60 = .ok (.iconst 1, 1) := by decide +kernel
theorem dX6_append_61 : decode cX6_append 61 = .ok (.iadd, 1) := by decide +kernel
theorem dX6_append_62 : decode cX6_append 62 = .ok (.putfield 19, 3) := by decide +kernel
theorem dX6_append_65 : decode cX6_append 65 = .ok (.iconst 1, 1) := by decide +kernel
theorem dX6_append_66 : decode cX6_append 66 = .ok (.ireturn, 1) := by decide +kernel
theorem dX6_lastStep_0 : decode cX6_lastStep 0 = .ok (.aload_n 0, 1) := by decide +kernel
theorem dX6_lastStep_1 : decode cX6_lastStep 1 = .ok (.getfield 15, 3) := by decide +kernel
theorem dX6_lastStep_4 : decode cX6_lastStep 4 = .ok (.aload_n 0, 1) := by decide +kernel
theorem dX6_lastStep_5 : decode cX6_lastStep 5 = .ok (.getfield 19, 3) := by decide +kernel
theorem dX6_lastStep_8 : decode cX6_lastStep 8 = .ok (.iadd, 1) := by decide +kernel
theorem dX6_lastStep_9 : decode cX6_lastStep 9 = .ok (.iconst 1, 1) := by decide +kernel
theorem dX6_lastStep_10 : decode cX6_lastStep 10 = .ok (.isub, 1) := by decide +kernel
theorem dX6_lastStep_11 : decode cX6_lastStep 11 = .ok (.ireturn, 1) := by decide +kernel
theorem dX6_hasPlace_0 : decode cX6_hasPlace 0 = .ok (.iload_n 1, 1) := by decide +kernel
theorem dX6_hasPlace_1 : decode cX6_hasPlace 1 = .ok (.aload_n 0, 1) := by decide +kernel
theorem dX6_hasPlace_2 : decode cX6_hasPlace 2 = .ok (.getfield 15, 3) := by decide +kernel
theorem dX6_hasPlace_5 : decode cX6_hasPlace 5 = .ok (.if_icmp .lt 15, 3) := by decide +kernel
theorem dX6_hasPlace_8 : decode cX6_hasPlace 8 = .ok (.iload_n 1, 1) := by decide +kernel
theorem dX6_hasPlace_9 : decode cX6_hasPlace 9 = .ok (.aload_n 0, 1) := by decide +kernel
theorem dX6_hasPlace_10 : decode cX6_hasPlace 10 = .ok (.invokevirtual 29, 3) := by decide +kernel
theorem dX6_hasPlace_13 : decode cX6_hasPlace 13 = .ok (.if_icmp .gt 7, 3) := by decide +kernel
theorem dX6_hasPlace_16 : decode cX6_hasPlace 16 = .ok (.iconst 1, 1) := by decide +kernel
theorem dX6_hasPlace_17 : decode cX6_hasPlace 17 = .ok (.goto 4, 3) := by decide +kernel
theorem dX6_hasPlace_20 : decode cX6_hasPlace 20 = .ok (.iconst 0, 1) := by decide +kernel
theorem dX6_hasPlace_21 : decode cX6_hasPlace 21 = .ok (.ireturn, 1) := by decide +kernel
theorem dX6_coord_0 : decode cX6_coord 0 = .ok (.iconst 3, 1) := by decide +kernel
theorem dX6_coord_1 : decode cX6_coord 1 = .ok (.iload_n 1, 1) := by decide +kernel
theorem dX6_coord_2 : decode cX6_coord 2 = .ok (.aload_n 0, 1) := by decide +kernel
theorem dX6_coord_3 : decode cX6_coord 3 = .ok (.getfield 15, 3) := by decide +kernel
theorem dX6_coord_6 : decode cX6_coord 6 = .ok (.isub, 1) := by decide +kernel
theorem dX6_coord_7 : decode cX6_coord 7 = .ok (.imul, 1) := by decide +kernel
theorem dX6_coord_8 : decode cX6_coord 8 = .ok (.iload_n 2, 1) := by decide +kernel
theorem dX6_coord_9 : decode cX6_coord 9 = .ok (.iadd, 1) := by decide +kernel
theorem dX6_coord_10 : decode cX6_coord 10 = .ok (.istore_n 3, 1) := by decide +kernel
theorem dX6_coord_11 : decode cX6_coord 11 = .ok (.iload_n 3, 1) := by decide +kernel
theorem dX6_coord_12 : decode cX6_coord 12 = .ok (.ifCond .lt 21, 3) := by decide +kernel
theorem dX6_coord_15 : decode cX6_coord 15 = .ok (.iload_n 3, 1) := by decide +kernel
theorem dX6_coord_16 : decode cX6_coord 16 = .ok (.aload_n 0, 1) := by decide +kernel
theorem dX6_coord_17 : decode cX6_coord 17 = .ok (.getfield 9, 3) := by decide +kernel
theorem dX6_coord_20 : decode cX6_coord 20 = .ok (.arraylength, 1) := by decide +kernel
theorem dX6_coord_21 : decode cX6_coord 21 = .ok (.if_icmp .ge 12, 3) := by decide +kernel
theorem dX6_coord_24 : decode cX6_coord 24 = .ok (.aload_n 0, 1) := by decide +kernel
theorem dX6_coord_25 : decode cX6_coord 25 = .ok (.getfield 9, 3) := by decide +kernel
theorem dX6_coord_28 : decode cX6_coord 28 = .ok (.iload_n 3, 1) := by decide +kernel
theorem dX6_coord_29 : decode cX6_coord 29 = .ok (.iaload, 1) := by decide +kernel
theorem dX6_coord_30 : decode cX6_coord 30 = .ok (.goto 4, 3) := by decide +kernel
theorem dX6_coord_34 : decode cX6_coord 34 = .ok (.ireturn, 1) := by decide +kernel
theorem dX6_move_0 : decode cX6_move 0 = .ok (.iconst 3, 1) := by decide +kernel
theorem dX6_move_1 : decode cX6_move 1 = .ok (.iload_n 1, 1) := by decide +kernel
theorem dX6_move_2 : decode cX6_move 2 = .ok (.aload_n 0, 1) := by decide +kernel
theorem dX6_move_3 : decode cX6_move 3 = .ok (.getfield 15, 3) := by decide +kernel
theorem dX6_move_6 : decode cX6_move 6 = .ok (.isub, 1) := by decide +kernel
theorem dX6_move_7 : decode cX6_move 7 = .ok (.imul, 1) := by decide +kernel
theorem dX6_move_8 : decode cX6_move 8 = .ok (.iload_n 2, 1) := by decide +kernel
theorem dX6_move_9 : decode cX6_move 9 = .ok (.iadd, 1) := by decide +kernel
theorem dX6_move_10 : decode cX6_move 10 = .ok (.istore 4, 2) := by decide +kernel
theorem dX6_move_12 : decode cX6_move 12 = .ok (.iload 4, 2) := by decide +kernel
theorem dX6_move_14 : decode cX6_move 14 = .ok (.ifCond .lt 24, 3) := by decide +kernel
theorem dX6_move_17 : decode cX6_move 17 = .ok (.iload 4, 2) := by decide +kernel
theorem dX6_move_19 : decode cX6_move 19 = .ok (.aload_n 0, 1) := by decide +kernel
theorem dX6_move_20 : decode cX6_move 20 = .ok (.getfield 9, 3) := by decide +kernel
theorem dX6_move_23 : decode cX6_move 23 = .ok (.arraylength, 1) := by decide +kernel
theorem dX6_move_24 : decode cX6_move 24 = .ok (.if_icmp .ge 14, 3) := by decide +kernel
theorem dX6_move_27 : decode cX6_move 27 = .ok (.aload_n 0, 1) := by decide +kernel
theorem dX6_move_28 : decode cX6_move 28 = .ok (.getfield 9, 3) := by decide +kernel
theorem dX6_move_31 : decode cX6_move 31 = .ok (.iload 4, 2) := by decide +kernel
theorem dX6_move_33 : decode cX6_move 33 = .ok (.dup2, 1) := by decide +kernel
theorem dX6_move_34 : decode cX6_move 34 = .ok (.iaload, 1) := by decide +kernel
theorem dX6_move_35 : decode cX6_move 35 = .ok (.iload_n 3, 1) := by decide +kernel
theorem dX6_move_36 : decode cX6_move 36 = .ok (.iadd, 1) := by decide +kernel
theorem dX6_move_37 : decode cX6_move 37 = .ok (.iastore, 1) := by decide +kernel
theorem dX6_move_38 : decode cX6_move 38 = .ok (.return_, 1) := by decide +kernel
theorem dX6_lowest_0 : decode cX6_lowest 0 = .ok (.aload_n 0, 1) := by decide +kernel
theorem dX6_lowest_1 : decode cX6_lowest 1 = .ok (.iload_n 1, 1) := by decide +kernel
theorem dX6_lowest_2 : decode cX6_lowest 2 = .ok (.iload_n 3, 1) := by decide +kernel
theorem dX6_lowest_3 : decode cX6_lowest 3 = .ok (.invokevirtual 33, 3) := by decide +kernel
theorem dX6_lowest_6 : decode cX6_lowest 6 = .ok (.istore 4, 2) := by decide +kernel
theorem dX6_lowest_8 : decode cX6_lowest 8 = .ok (.iload_n 1, 1) := by decide +kernel
theorem dX6_lowest_9 : decode cX6_lowest 9 = .ok (.istore 5, 2) := by decide +kernel
theorem dX6_lowest_11 : decode cX6_lowest 11 = .ok (.iload 5, 2) := by decide +kernel
theorem dX6_lowest_13 : decode cX6_lowest 13 = .ok (.iload_n 2, 1) := by decide +kernel
theorem dX6_lowest_14 : decode cX6_lowest 14 = .ok (.if_icmp .gt 23, 3) := by decide +kernel
theorem dX6_lowest_17 : decode cX6_lowest 17 = .ok (.iload 4, 2) := by decide +kernel
theorem dX6_lowest_19 : decode cX6_lowest 19 = .ok (.aload_n 0, 1) := by decide +kernel
theorem dX6_lowest_20 : decode cX6_lowest 20 = .ok (.iload 5, 2) := by decide +kernel
theorem dX6_lowest_22 : decode cX6_lowest 22 = .ok (.iload_n 3, 1) := by decide +kernel
theorem dX6_lowest_23 : decode cX6_lowest 23 = .ok (.invokevirtual 33, 3) := by decide +kernel
theorem dX6_lowest_26 : decode cX6_lowest 26 = .ok (.invokestatic 37, 3) := by decide +kernel
theorem dX6_lowest_29 : decode cX6_lowest 29 = .ok (.istore 4, 2) := by decide +kernel
theorem dX6_lowest_31 : decode cX6_lowest 31 = .ok (.iinc 5 1, 3) := by decide +kernel
theorem dX6_lowest_34 : decode cX6_lowest 34 = .ok (.goto (-23), 3) := by decide +kernel
theorem dX6_lowest_37 : decode cX6_lowest 37 = .ok (.iload 4, 2) := by decide +kernel
theorem dX6_lowest_39 : decode cX6_lowest 39 = .ok (.ireturn, 1) := by decide +kernel
theorem dX6_highest_0 : decode cX6_highest 0 = .ok (.aload_n 0, 1) := by decide +kernel
theorem dX6_highest_1 : decode cX6_highest 1 = .ok (.iload_n 1, 1) := by decide +kernel
theorem dX6_highest_2 : decode cX6_highest 2 = .ok (.iload_n 3, 1) := by decide +kernel
theorem dX6_highest_3 : decode cX6_highest 3 = .ok (.invokevirtual 33, 3) := by decide +kernel
theorem dX6_highest_6 : decode cX6_highest 6 = .ok (.istore 4, 2) := by decide +kernel
theorem dX6_highest_8 : decode cX6_highest 8 = .ok (.iload_n 1, 1) := by decide +kernel
theorem dX6_highest_9 : decode cX6_highest 9 = .ok (.istore 5, 2) := by decide +kernel
theorem dX6_highest_11 : decode cX6_highest 11 = .ok (.iload 5, 2) := by decide +kernel
theorem dX6_highest_13 : decode cX6_highest 13 = .ok (.iload_n 2, 1) := by decide +kernel
theorem dX6_highest_14 : decode cX6_highest 14 = .ok (.if_icmp .gt 23, 3) := by decide +kernel
theorem dX6_highest_17 : decode cX6_highest 17 = .ok (.iload 4, 2) := by decide +kernel
theorem dX6_highest_19 : decode cX6_highest 19 = .ok (.aload_n 0, 1) := by decide +kernel
theorem dX6_highest_20 : decode cX6_highest 20 = .ok (.iload 5, 2) := by decide +kernel
theorem dX6_highest_22 : decode cX6_highest 22 = .ok (.iload_n 3, 1) := by decide +kernel
theorem dX6_highest_23 : decode cX6_highest 23 = .ok (.invokevirtual 33, 3) := by decide +kernel
theorem dX6_highest_26 : decode cX6_highest 26 = .ok (.invokestatic 42, 3) := by decide +kernel
theorem dX6_highest_29 : decode cX6_highest 29 = .ok (.istore 4, 2) := by decide +kernel
theorem dX6_highest_31 : decode cX6_highest 31 = .ok (.iinc 5 1, 3) := by decide +kernel
theorem dX6_highest_34 : decode cX6_highest 34 = .ok (.goto (-23), 3) := by decide +kernel
theorem dX6_highest_37 : decode cX6_highest 37 = .ok (.iload 4, 2) := by decide +kernel
theorem dX6_highest_39 : decode cX6_highest 39 = .ok (.ireturn, 1) := by decide +kernel
theorem dX6_boxSide_0 : decode cX6_boxSide 0 = .ok (.iconst 2, 1) := by decide +kernel
theorem dX6_boxSide_1 : decode cX6_boxSide 1 = .ok (.aload_n 0, 1) := by decide +kernel
theorem dX6_boxSide_2 : decode cX6_boxSide 2 = .ok (.getfield 22, 3) := by decide +kernel
theorem dX6_boxSide_5 : decode cX6_boxSide 5 = .ok (.imul, 1) := by decide +kernel
theorem dX6_boxSide_6 : decode cX6_boxSide 6 = .ok (.iconst 1, 1) := by decide +kernel
theorem dX6_boxSide_7 : decode cX6_boxSide 7 = .ok (.iadd, 1) := by decide +kernel
theorem dX6_boxSide_8 : decode cX6_boxSide 8 = .ok (.ireturn, 1) := by decide +kernel
theorem dX6_isBoxed_0 : decode cX6_isBoxed 0 = .ok (.aload_n 0, 1) := by decide +kernel
theorem dX6_isBoxed_1 : decode cX6_isBoxed 1 = .ok (.aload_n 1, 1) := by decide +kernel
theorem dX6_isBoxed_2 : decode cX6_isBoxed 2 = .ok (.getfield 45, 3) := by decide +kernel
theorem dX6_isBoxed_5 : decode cX6_isBoxed 5 = .ok (.invokevirtual 50, 3) := by decide +kernel
theorem dX6_isBoxed_8 : decode cX6_isBoxed 8 = .ok (.ifCond .eq 79, 3) := by decide +kernel
theorem dX6_isBoxed_11 : decode cX6_isBoxed 11 = .ok (.aload_n 0, 1) := by decide +kernel
theorem dX6_isBoxed_12 : decode cX6_isBoxed 12 = .ok (.aload_n 1, 1) := by decide +kernel
theorem dX6_isBoxed_13 : decode cX6_isBoxed 13 = .ok (.getfield 45, 3) := by decide +kernel
theorem dX6_isBoxed_16 : decode cX6_isBoxed 16 = .ok (.iconst 0, 1) := by decide +kernel
theorem dX6_isBoxed_17 : decode cX6_isBoxed 17 = .ok (.invokevirtual 33, 3) := by decide +kernel
theorem dX6_isBoxed_20 : decode cX6_isBoxed 20 = .ok (.aload_n 1, 1) := by decide +kernel
theorem dX6_isBoxed_21 : decode cX6_isBoxed 21 = .ok (.getfield 54, 3) := by decide +kernel
theorem dX6_isBoxed_24 : decode cX6_isBoxed 24 = .ok (.isub, 1) := by decide +kernel
theorem dX6_isBoxed_25 : decode cX6_isBoxed 25 = .ok (.invokestatic 57, 3) := by decide +kernel
theorem dX6_isBoxed_28 : decode cX6_isBoxed 28 = .ok (.aload_n 0, 1) := by decide +kernel
theorem dX6_isBoxed_29 : decode cX6_isBoxed 29 = .ok (.getfield 22, 3) := by decide +kernel
theorem dX6_isBoxed_32 : decode cX6_isBoxed 32 = .ok (.if_icmp .gt 55, 3) := by decide +kernel
theorem dX6_isBoxed_35 : decode cX6_isBoxed 35 = .ok (.aload_n 0, 1) := by decide +kernel
theorem dX6_isBoxed_36 : decode cX6_isBoxed 36 = .ok (.aload_n 1, 1) := by decide +kernel
theorem dX6_isBoxed_37 : decode cX6_isBoxed 37 = .ok (.getfield 45, 3) := by decide +kernel
theorem dX6_isBoxed_40 : decode cX6_isBoxed 40 = .ok (.iconst 1, 1) := by decide +kernel
theorem dX6_isBoxed_41 : decode cX6_isBoxed 41 = .ok (.invokevirtual 33, 3) := by decide +kernel
theorem dX6_isBoxed_44 : decode cX6_isBoxed 44 = .ok (.aload_n 1, 1) := by decide +kernel
theorem dX6_isBoxed_45 : decode cX6_isBoxed 45 = .ok (.getfield 61, 3) := by decide +kernel
theorem dX6_isBoxed_48 : decode cX6_isBoxed 48 = .ok (.isub, 1) := by decide +kernel
theorem dX6_isBoxed_49 : decode cX6_isBoxed 49 = .ok (.invokestatic 57, 3) := by decide +kernel
theorem dX6_isBoxed_52 : decode cX6_isBoxed 52 = .ok (.aload_n 0, 1) := by decide +kernel
theorem dX6_isBoxed_53 : decode cX6_isBoxed 53 = .ok (.getfield 22, 3) := by decide +kernel
theorem dX6_isBoxed_56 : decode cX6_isBoxed 56 = .ok (.if_icmp .gt 31, 3) := by decide +kernel
theorem dX6_isBoxed_59 : decode cX6_isBoxed 59 = .ok (.aload_n 0, 1) := by decide +kernel
theorem dX6_isBoxed_60 : decode cX6_isBoxed 60 = .ok (.aload_n 1, 1) := by decide +kernel
theorem dX6_isBoxed_61 : decode cX6_isBoxed 61 = .ok (.getfield 45, 3) := by decide +kernel
theorem dX6_isBoxed_64 : decode cX6_isBoxed 64 = .ok (.iconst 2, 1) := by decide +kernel
theorem dX6_isBoxed_65 : decode cX6_isBoxed 65 = .ok (.invokevirtual 33, 3) := by decide +kernel
theorem dX6_isBoxed_68 : decode cX6_isBoxed 68 = .ok (.aload_n 1, 1) := by decide +kernel
theorem dX6_isBoxed_69 : decode cX6_isBoxed 69 = .ok (.getfield 64, 3) := by decide +kernel
theorem dX6_isBoxed_72 : decode cX6_isBoxed 72 = .ok (.isub, 1) := by decide +kernel
theorem dX6_isBoxed_73 : decode cX6_isBoxed 73 = .ok (.invokestatic 57, 3) := by decide +kernel
theorem dX6_isBoxed_76 : decode cX6_isBoxed 76 = .ok (.aload_n 0, 1) := by decide +kernel
theorem dX6_isBoxed_77 : decode cX6_isBoxed 77 = .ok (.getfield 22, 3) := by decide +kernel
theorem dX6_isBoxed_80 : decode cX6_isBoxed 80 = .ok (.if_icmp .gt 7, 3) := by decide +kernel
theorem dX6_isBoxed_83 : decode cX6_isBoxed 83 = .ok (.iconst 1, 1) := by decide +kernel
theorem dX6_isBoxed_84 : decode cX6_isBoxed 84 = .ok (.goto 4, 3) := by decide +kernel
theorem dX6_isBoxed_87 : decode cX6_isBoxed 87 = .ok (.iconst 0, 1) := by decide +kernel
theorem dX6_isBoxed_88 : decode cX6_isBoxed 88 = .ok (.ireturn, 1) := by decide +kernel
theorem dX6_drift_0 : decode cX6_drift 0 = .ok (.iload_n 1, 1) := by decide +kernel
theorem dX6_drift_1 : decode cX6_drift 1 = .ok (.iconst 1, 1) := by decide +kernel
theorem dX6_drift_2 : decode cX6_drift 2 = .ok (.iadd, 1) := by decide +kernel
theorem dX6_drift_3 : decode cX6_drift 3 = .ok (.istore 5, 2) := by decide +kernel
theorem dX6_drift_5 : decode cX6_drift 5 = .ok (.iload 5, 2) := by decide +kernel
theorem dX6_drift_7 : decode cX6_drift 7 = .ok (.aload_n 0, 1) := by decide +kernel
theorem dX6_drift_8 : decode cX6_drift 8 = .ok (.invokevirtual 29, 3) := by decide +kernel
theorem dX6_drift_11 : decode cX6_drift 11 = .ok (.if_icmp .gt 49, 3) := by decide +kernel
theorem dX6_drift_14 : decode cX6_drift 14 = .ok (.iload 5, 2) := by decide +kernel
theorem dX6_drift_16 : decode cX6_drift 16 = .ok (.iload_n 1, 1) := by decide +kernel
theorem dX6_drift_17 : decode cX6_drift 17 = .ok (.isub, 1) := by decide +kernel
theorem dX6_drift_18 : decode cX6_drift 18 = .ok (.istore 6, 2) := by decide +kernel
theorem dX6_drift_20 : decode cX6_drift 20 = .ok (.aload_n 0, 1) := by decide +kernel
theorem dX6_drift_21 : decode cX6_drift 21 = .ok (.iload 5, 2) := by decide +kernel
theorem dX6_drift_23 : decode cX6_drift 23 = .ok (.iconst 0, 1) := by decide +kernel
theorem dX6_drift_24 : decode cX6_drift 24 = .ok (.iload 6, 2) := by decide +kernel
theorem dX6_drift_26 : decode cX6_drift 26 = .ok (.iload_n 2, 1) := by decide +kernel
theorem dX6_drift_27 : decode cX6_drift 27 = .ok (.imul, 1) := by decide +kernel
theorem dX6_drift_28 : decode cX6_drift 28 = .ok (.invokevirtual 67, 3) := by decide +kernel
theorem dX6_drift_31 : decode cX6_drift 31 = .ok (.aload_n 0, 1) := by decide +kernel
theorem dX6_drift_32 : decode cX6_drift 32 = .ok (.iload 5, 2) := by decide +kernel
theorem dX6_drift_34 : decode cX6_drift 34 = .ok (.iconst 1, 1) := by decide +kernel
theorem dX6_drift_35 : decode cX6_drift 35 = .ok (.iload 6, 2) := by decide +kernel
theorem dX6_drift_37 : decode cX6_drift 37 = .ok (.iload_n 3, 1) := by decide +kernel
theorem dX6_drift_38 : decode cX6_drift 38 = .ok (.imul, 1) := by decide +kernel
theorem dX6_drift_39 : decode cX6_drift 39 = .ok (.invokevirtual 67, 3) := by decide +kernel
theorem dX6_drift_42 : decode cX6_drift 42 = .ok (.aload_n 0, 1) := by decide +kernel
theorem dX6_drift_43 : decode cX6_drift 43 = .ok (.iload 5, 2) := by decide +kernel
theorem dX6_drift_45 : decode cX6_drift 45 = .ok (.iconst 2, 1) := by decide +kernel
theorem dX6_drift_46 : decode cX6_drift 46 = .ok (.iload 6, 2) := by decide +kernel
theorem dX6_drift_48 : decode cX6_drift 48 = .ok (.iload 4, 2) := by decide +kernel
theorem dX6_drift_50 : decode cX6_drift 50 = .ok (.imul, 1) := by decide +kernel
theorem dX6_drift_51 : decode cX6_drift 51 = .ok (.invokevirtual 67, 3) := by decide +kernel
theorem dX6_drift_54 : decode cX6_drift 54 = .ok (.iinc 5 1, 3) := by decide +kernel
theorem dX6_drift_57 : decode cX6_drift 57 = .ok (.goto (-52), 3) := by decide +kernel
theorem dX6_drift_60 : decode cX6_drift 60 = .ok (.return_, 1) := by decide +kernel
theorem dX6_staysInside_0 : decode cX6_staysInside 0 = .ok (.iload_n 1, 1) := by decide +kernel
theorem dX6_staysInside_1 : decode cX6_staysInside 1 = .ok (.iconst 1, 1) := by decide +kernel
theorem dX6_staysInside_2 : decode cX6_staysInside 2 = .ok (.iadd, 1) := by decide +kernel
theorem dX6_staysInside_3 : decode cX6_staysInside 3 = .ok (.istore 5, 2) := by decide +kernel
theorem dX6_staysInside_5 : decode cX6_staysInside 5 = .ok (.iload 5, 2) := by decide +kernel
theorem dX6_staysInside_7 : decode cX6_staysInside 7 = .ok (.aload_n 0, 1) := by decide +kernel
theorem dX6_staysInside_8 : decode cX6_staysInside 8 = .ok (.invokevirtual 29, 3) := by decide +kernel
theorem dX6_staysInside_11 : decode cX6_staysInside 11 = .ok (.if_icmp .gt 60, 3) := by decide +kernel
theorem dX6_staysInside_14 : decode cX6_staysInside 14 = .ok (.iload 5, 2) := by decide +kernel
theorem dX6_staysInside_16 : decode cX6_staysInside 16 = .ok (.iload_n 1, 1) := by decide +kernel
theorem dX6_staysInside_17 : decode cX6_staysInside 17 = .ok (.isub, 1) := by decide +kernel
theorem dX6_staysInside_18 : decode cX6_staysInside 18 = .ok (.istore 6, 2) := by decide +kernel
theorem dX6_staysInside_20 : decode cX6_staysInside 20 = .ok (.aload_n 0, 1) := by decide +kernel
theorem dX6_staysInside_21 : decode cX6_staysInside 21 = .ok (.iload 5, 2) := by decide +kernel
theorem dX6_staysInside_23 : decode cX6_staysInside 23 = .ok (.iconst 0, 1) := by decide +kernel
theorem dX6_staysInside_24 : decode cX6_staysInside 24 = .ok (.invokevirtual 33, 3) := by decide +kernel
theorem dX6_staysInside_27 : decode cX6_staysInside 27 = .ok (.iload 6, 2) := by decide +kernel
theorem dX6_staysInside_29 : decode cX6_staysInside 29 = .ok (.iload_n 2, 1) := by decide +kernel
theorem dX6_staysInside_30 : decode cX6_staysInside 30 = .ok (.imul, 1) := by decide +kernel
theorem dX6_staysInside_31 : decode cX6_staysInside 31 = .ok (.iadd, 1) := by decide +kernel
theorem dX6_staysInside_32 : decode cX6_staysInside 32 = .ok (.aload_n 0, 1) := by decide +kernel
theorem dX6_staysInside_33 : decode cX6_staysInside 33 = .ok (.iload 5, 2) := by decide +kernel
theorem dX6_staysInside_35 : decode cX6_staysInside 35 = .ok (.iconst 1, 1) := by decide +kernel
theorem dX6_staysInside_36 : decode cX6_staysInside 36 = .ok (.invokevirtual 33, 3) := by decide +kernel
theorem dX6_staysInside_39 : decode cX6_staysInside 39 = .ok (.iload 6, 2) := by decide +kernel
theorem dX6_staysInside_41 : decode cX6_staysInside 41 = .ok (.iload_n 3, 1) := by decide +kernel
theorem dX6_staysInside_42 : decode cX6_staysInside 42 = .ok (.imul, 1) := by decide +kernel
theorem dX6_staysInside_43 : decode cX6_staysInside 43 = .ok (.iadd, 1) := by decide +kernel
theorem dX6_staysInside_44 : decode cX6_staysInside 44 = .ok (.aload_n 0, 1) := by decide +kernel
theorem dX6_staysInside_45 : decode cX6_staysInside 45 = .ok (.iload 5, 2) := by decide +kernel
theorem dX6_staysInside_47 : decode cX6_staysInside 47 = .ok (.iconst 2, 1) := by decide +kernel
theorem dX6_staysInside_48 : decode cX6_staysInside 48 = .ok (.invokevirtual 33, 3) := by decide +kernel
theorem dX6_staysInside_51 : decode cX6_staysInside 51 = .ok (.iload 6, 2) := by decide +kernel
theorem dX6_staysInside_53 : decode cX6_staysInside 53 = .ok (.iload 4, 2) := by decide +kernel
theorem dX6_staysInside_55 : decode cX6_staysInside 55 = .ok (.imul, 1) := by decide +kernel
theorem dX6_staysInside_56 : decode cX6_staysInside 56 = .ok (.iadd, 1) := by decide +kernel
theorem dX6_staysInside_57 : decode cX6_staysInside 57 = .ok (.invokestatic 71, 3) := by decide +kernel
theorem dX6_staysInside_60 : decode cX6_staysInside 60 = .ok (.ifCond .ne 5, 3) := by decide +kernel
theorem dX6_staysInside_63 : decode cX6_staysInside 63 = .ok (.iconst 0, 1) := by decide +kernel
theorem dX6_staysInside_64 : decode cX6_staysInside 64 = .ok (.ireturn, 1) := by decide +kernel
theorem dX6_staysInside_65 : decode cX6_staysInside 65 = .ok (.iinc 5 1, 3) := by decide +kernel
theorem dX6_staysInside_68 : decode cX6_staysInside 68 = .ok (.goto (-63), 3) := by decide +kernel
theorem dX6_staysInside_71 : decode cX6_staysInside 71 = .ok (.iconst 1, 1) := by decide +kernel
theorem dX6_staysInside_72 : decode cX6_staysInside 72 = .ok (.ireturn, 1) := by decide +kernel
theorem dX6_copyFrom_0 : decode cX6_copyFrom 0 = .ok (.aload_n 0, 1) := by decide +kernel
theorem dX6_copyFrom_1 : decode cX6_copyFrom 1 = .ok (.iload_n 2, 1) := by decide +kernel
theorem dX6_copyFrom_2 : decode cX6_copyFrom 2 = .ok (.aload_n 1, 1) := by decide +kernel
theorem dX6_copyFrom_3 : decode cX6_copyFrom 3 = .ok (.getfield 22, 3) := by decide +kernel
theorem dX6_copyFrom_6 : decode cX6_copyFrom 6 = .ok (.invokevirtual 75, 3) := by decide +kernel
theorem dX6_copyFrom_9 : decode cX6_copyFrom 9 = .ok (.aload_n 0, 1) := by decide +kernel
theorem dX6_copyFrom_10 : decode cX6_copyFrom 10 = .ok (.aload_n 1, 1) := by decide +kernel
theorem dX6_copyFrom_11 : decode cX6_copyFrom 11 = .ok (.getfield 25, 3) := by decide +kernel
theorem dX6_copyFrom_14 : decode cX6_copyFrom 14 = .ok (.putfield 25, 3) := by decide +kernel
theorem dX6_copyFrom_17 : decode cX6_copyFrom 17 = .ok (.iload_n 2, 1) := by decide +kernel
theorem dX6_copyFrom_18 : decode cX6_copyFrom 18 = .ok (.istore_n 3, 1) := by decide +kernel
theorem dX6_copyFrom_19 : decode cX6_copyFrom 19 = .ok (.iload_n 3, 1) := by decide +kernel
theorem dX6_copyFrom_20 : decode cX6_copyFrom 20 = .ok (.aload_n 1, 1) := by decide +kernel
theorem dX6_copyFrom_21 : decode cX6_copyFrom 21 = .ok (.invokevirtual 29, 3) := by decide +kernel
theorem dX6_copyFrom_24 : decode cX6_copyFrom 24 = .ok (.if_icmp .gt 32, 3) := by decide +kernel
theorem dX6_copyFrom_27 : decode cX6_copyFrom 27 = .ok (.aload_n 0, 1) := by decide +kernel
theorem dX6_copyFrom_28 : decode cX6_copyFrom 28 = .ok (.aload_n 1, 1) := by decide +kernel
theorem dX6_copyFrom_29 : decode cX6_copyFrom 29 = .ok (.iload_n 3, 1) := by decide +kernel
theorem dX6_copyFrom_30 : decode cX6_copyFrom 30 = .ok (.iconst 0, 1) := by decide +kernel
theorem dX6_copyFrom_31 : decode cX6_copyFrom 31 = .ok (.invokevirtual 33, 3) := by decide +kernel
theorem dX6_copyFrom_34 : decode cX6_copyFrom 34 = .ok (.aload_n 1, 1) := by decide +kernel
theorem dX6_copyFrom_35 : decode cX6_copyFrom 35 = .ok (.iload_n 3, 1) := by decide +kernel
theorem dX6_copyFrom_36 : decode cX6_copyFrom 36 = .ok (.iconst 1, 1) := by decide +kernel
theorem dX6_copyFrom_37 : decode cX6_copyFrom 37 = .ok (.invokevirtual 33, 3) := by decide +kernel
theorem dX6_copyFrom_40 : decode cX6_copyFrom 40 = .ok (.aload_n 1, 1) := by decide +kernel
theorem dX6_copyFrom_41 : decode cX6_copyFrom 41 = .ok (.iload_n 3, 1) := by decide +kernel
theorem dX6_copyFrom_42 : decode cX6_copyFrom 42 = .ok (.iconst 2, 1) := by decide +kernel
theorem dX6_copyFrom_43 : decode cX6_copyFrom 43 = .ok (.invokevirtual 33, 3) := by decide +kernel
theorem dX6_copyFrom_46 : decode cX6_copyFrom 46 = .ok (.invokevirtual 79, 3) := by decide +kernel
theorem dX6_copyFrom_49 : decode cX6_copyFrom 49 = .ok (.pop, 1) := by decide +kernel
theorem dX6_copyFrom_50 : decode cX6_copyFrom 50 = .ok (.iinc 3 1, 3) := by decide +kernel
theorem dX6_copyFrom_53 : decode cX6_copyFrom 53 = .ok (.goto (-34), 3) := by decide +kernel
theorem dX6_copyFrom_56 : decode cX6_copyFrom 56 = .ok (.return_, 1) := by decide +kernel
theorem dX6_isSame_0 : decode cX6_isSame 0 = .ok (.aload_n 0, 1) := by decide +kernel
theorem dX6_isSame_1 : decode cX6_isSame 1 = .ok (.getfield 15, 3) := by decide +kernel
theorem dX6_isSame_4 : decode cX6_isSame 4 = .ok (.aload_n 1, 1) := by decide +kernel
theorem dX6_isSame_5 : decode cX6_isSame 5 = .ok (.getfield 15, 3) := by decide +kernel
theorem dX6_isSame_8 : decode cX6_isSame 8 = .ok (.if_icmp .ne 36, 3) := by decide +kernel
theorem dX6_isSame_11 : decode cX6_isSame 11 = .ok (.aload_n 0, 1) := by decide +kernel
theorem dX6_isSame_12 : decode cX6_isSame 12 = .ok (.getfield 19, 3) := by decide +kernel
theorem dX6_isSame_15 : decode cX6_isSame 15 = .ok (.aload_n 1, 1) := by decide +kernel
theorem dX6_isSame_16 : decode cX6_isSame 16 = .ok (.getfield 19, 3) := by decide +kernel
theorem dX6_isSame_19 : decode cX6_isSame 19 = .ok (.if_icmp .ne 25, 3) := by decide +kernel
theorem dX6_isSame_22 : decode cX6_isSame 22 = .ok (.aload_n 0, 1) := by decide +kernel
theorem dX6_isSame_23 : decode cX6_isSame 23 = .ok (.getfield 22, 3) := by decide +kernel
theorem dX6_isSame_26 : decode cX6_isSame 26 = .ok (.aload_n 1, 1) := by decide +kernel
theorem dX6_isSame_27 : decode cX6_isSame 27 = .ok (.getfield 22, 3) := by decide +kernel
theorem dX6_isSame_30 : decode cX6_isSame 30 = .ok (.if_icmp .ne 14, 3) := by decide +kernel
theorem dX6_isSame_33 : decode cX6_isSame 33 = .ok (.aload_n 0, 1) := by decide +kernel
theorem dX6_isSame_34 : decode cX6_isSame 34 = .ok (.getfield 25, 3) := by decide +kernel
theorem dX6_isSame_37 : decode cX6_isSame 37 = .ok (.aload_n 1, 1) := by decide +kernel
theorem dX6_isSame_38 : decode cX6_isSame 38 = .ok (.getfield 25, 3) := by decide +kernel
theorem dX6_isSame_41 : decode cX6_isSame 41 = .ok (.if_icmp .eq 5, 3) := by decide +kernel
theorem dX6_isSame_44 : decode cX6_isSame 44 = .ok (.iconst 0, 1) := by decide +kernel
theorem dX6_isSame_45 : decode cX6_isSame 45 = .ok (.ireturn, 1) := by decide +kernel
theorem dX6_isSame_46 : decode cX6_isSame 46 = .ok (.iconst 0, 1) := by decide +kernel
theorem dX6_isSame_47 : decode cX6_isSame 47 = .ok (.istore_n 2, 1) := by decide +kernel
theorem dX6_isSame_48 : decode cX6_isSame 48 = .ok (.iload_n 2, 1) := by decide +kernel
theorem dX6_isSame_49 : decode cX6_isSame 49 = .ok (.iconst 3, 1) := by decide +kernel
theorem dX6_isSame_50 : decode cX6_isSame 50 = .ok (.aload_n 0, 1) := by decide +kernel
theorem dX6_isSame_51 : decode cX6_isSame 51 = .ok (.getfield 19, 3) := by decide +kernel
theorem dX6_isSame_54 : decode cX6_isSame 54 = .ok (.imul, 1) := by decide +kernel
theorem dX6_isSame_55 : decode cX6_isSame 55 = .ok (.if_icmp .ge 44, 3) := by decide +kernel
theorem dX6_isSame_58 : decode cX6_isSame 58 = .ok (.iload_n 2, 1) := by decide +kernel
theorem dX6_isSame_59 : decode cX6_isSame 59 = .ok (.aload_n 0, 1) := by decide +kernel
theorem dX6_isSame_60 : decode cX6_isSame 60 = .ok (.getfield 9, 3) := by decide +kernel
theorem dX6_isSame_63 : decode cX6_isSame 63 = .ok (.arraylength, 1) := by decide +kernel
theorem dX6_isSame_64 : decode cX6_isSame 64 = .ok (.if_icmp .ge 35, 3) := by decide +kernel
theorem dX6_isSame_67 : decode cX6_isSame 67 = .ok (.iload_n 2, 1) := by decide +kernel
theorem dX6_isSame_68 : decode cX6_isSame 68 = .ok (.aload_n 1, 1) := by decide +kernel
theorem dX6_isSame_69 : decode cX6_isSame 69 = .ok (.getfield 9, 3) := by decide +kernel
theorem dX6_isSame_72 : decode cX6_isSame 72 = .ok (.arraylength, 1) := by decide +kernel
theorem dX6_isSame_73 : decode cX6_isSame 73 = .ok (.if_icmp .ge 26, 3) := by decide +kernel
theorem dX6_isSame_76 : decode cX6_isSame 76 = .ok (.aload_n 0, 1) := by decide +kernel
theorem dX6_isSame_77 : decode cX6_isSame 77 = .ok (.getfield 9, 3) := by decide +kernel
theorem dX6_isSame_80 : decode cX6_isSame 80 = .ok (.iload_n 2, 1) := by decide +kernel
theorem dX6_isSame_81 : decode cX6_isSame 81 = .ok (.iaload, 1) := by decide +kernel
theorem dX6_isSame_82 : decode cX6_isSame 82 = .ok (.aload_n 1, 1) := by decide +kernel
theorem dX6_isSame_83 : decode cX6_isSame 83 = .ok (.getfield 9, 3) := by decide +kernel
theorem dX6_isSame_86 : decode cX6_isSame 86 = .ok (.iload_n 2, 1) := by decide +kernel
theorem dX6_isSame_87 : decode cX6_isSame 87 = .ok (.iaload, 1) := by decide +kernel
theorem dX6_isSame_88 : decode cX6_isSame 88 = .ok (.if_icmp .eq 5, 3) := by decide +kernel
theorem dX6_isSame_91 : decode cX6_isSame 91 = .ok (.iconst 0, 1) := by decide +kernel
theorem dX6_isSame_92 : decode cX6_isSame 92 = .ok (.ireturn, 1) := by decide +kernel
theorem dX6_isSame_93 : decode cX6_isSame 93 = .ok (.iinc 2 1, 3) := by decide +kernel
theorem dX6_isSame_96 : decode cX6_isSame 96 = .ok (.goto (-48), 3) := by decide +kernel
theorem dX6_isSame_99 : decode cX6_isSame 99 = .ok (.iconst 1, 1) := by decide +kernel
theorem dX6_isSame_100 : decode cX6_isSame 100 = .ok (.ireturn, 1) := by decide +kernel

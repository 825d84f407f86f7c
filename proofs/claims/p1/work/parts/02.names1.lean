theorem dX0_init_0 : decode cX0_init 0 = .ok (.aload_n 0, 1) := by decide +kernel
theorem dX0_init_1 : decode cX0_init 1 = .ok (.invokespecial 3, 3) := by decide +kernel
theorem dX0_init_4 : decode cX0_init 4 = .ok (.return_, 1) := by decide +kernel
theorem dX1_init_0 : decode cX1_init 0 = .ok (.aload_n 0, 1) := by decide +kernel
theorem dX1_init_1 : decode cX1_init 1 = .ok (.invokespecial 3, 3) := by decide +kernel
theorem dX1_init_4 : decode cX1_init 4 = .ok (.aload_n 0, 1) := by decide +kernel
theorem dX1_init_5 : decode cX1_init 5 = .ok (.bipush 16, 2) := by decide +kernel
theorem dX1_init_7 : decode cX1_init 7 = .ok (.anewarray 9, 3) := by decide +kernel
theorem dX1_init_10 : decode cX1_init 10 = .ok (.putfield 11, 3) := by decide +kernel
theorem dX1_init_13 : decode cX1_init 13 = .ok (.return_, 1) := by decide +kernel
theorem dX1_find_0 : decode cX1_find 0 = .ok (.iload_n 1, 1) := by decide +kernel
theorem dX1_find_1 : decode cX1_find 1 = .ok (.ifCond .lt 29, 3) := by decide +kernel
theorem dX1_find_4 : decode cX1_find 4 = .ok (.iload_n 1, 1) := by decide +kernel
theorem dX1_find_5 : decode cX1_find 5 = .ok (.aload_n 0, 1) := by decide +kernel
theorem dX1_find_6 : decode cX1_find 6 = .ok (.getfield 17, 3) := by decide +kernel
theorem dX1_find_9 : decode cX1_find 9 = .ok (.if_icmp .ge 21, 3) := by decide +kernel
theorem dX1_find_30 : decode cX1_find 30 = .ok (.aconst_null, 1) := by decide +kernel
theorem dX1_find_31 : decode cX1_find 31 = .ok (.areturn, 1) := by decide +kernel
theorem dX1_next_0 : decode cX1_next 0 = .ok (.aload_n 0, 1) := by decide +kernel
theorem dX1_next_1 : decode cX1_next 1 = .ok (.getfield 17, 3) := by decide +kernel
theorem dX1_next_4 : decode cX1_next 4 = .ok (.ifCond .lt 15, 3) := by decide +kernel
theorem dX1_next_7 : decode cX1_next 7 = .ok (.aload_n 0, 1) := by decide +kernel
theorem dX1_next_8 : decode cX1_next 8 = .ok (.getfield 17, 3) := by decide +kernel
theorem dX1_next_11 : decode cX1_next 11 = .ok (.aload_n 0, 1) := by decide +kernel
theorem dX1_next_12 : decode cX1_next 12 = .ok (.getfield 11, 3) := by decide +kernel
theorem dX1_next_15 : decode cX1_next 15 = .ok (.arraylength, 1) := by decide +kernel
theorem dX1_next_16 : decode cX1_next 16 = .ok (.if_icmp .lt 5, 3) := by decide +kernel
theorem dX1_next_21 : decode cX1_next 21 = .ok (.aload_n 0, 1) := by decide +kernel
theorem dX1_next_22 : decode cX1_next 22 = .ok (.getfield 11, 3) := by decide +kernel
theorem dX1_next_25 : decode cX1_next 25 = .ok (.aload_n 0, 1) := by decide +kernel
theorem dX1_next_26 : decode cX1_next 26 = .ok (.getfield 17, 3) := by decide +kernel
theorem dX1_next_29 : decode cX1_next 29 = .ok (.aaload, 1) := by decide +kernel
theorem dX1_next_30 : decode cX1_next 30 = .ok (.ifnonnull 19, 3) := by decide +kernel
theorem dX1_next_33 : decode cX1_next 33 = .ok (.aload_n 0, 1) := by decide +kernel
theorem dX1_next_34 : decode cX1_next 34 = .ok (.getfield 11, 3) := by decide +kernel
theorem dX1_next_37 : decode cX1_next 37 = .ok (.aload_n 0, 1) := by decide +kernel
theorem dX1_next_38 : decode cX1_next 38 = .ok (.getfield 17, 3) := by decide +kernel
theorem dX1_next_41 : decode cX1_next 41 = .ok (.new 9, 3) := by decide +kernel
theorem dX1_next_44 : decode cX1_next 44 = .ok (.dup, 1) := by decide +kernel
theorem dX1_next_45 : decode cX1_next 45 = .ok (.invokespecial 21, 3) := by decide +kernel
theorem dX1_next_48 : decode cX1_next 48 = .ok (.aastore, 1) := by decide +kernel
theorem dX1_next_49 : decode cX1_next 49 = .ok (.aload_n 0, 1) := by decide +kernel
theorem dX1_next_50 : decode cX1_next 50 = .ok (.getfield 11, 3) := by decide +kernel
theorem dX1_next_53 : decode cX1_next 53 = .ok (.aload_n 0, 1) := by decide +kernel
theorem dX1_next_54 : decode cX1_next 54 = .ok (.getfield 17, 3) := by decide +kernel
theorem dX1_next_57 : decode cX1_next 57 = .ok (.aaload, 1) := by decide +kernel
theorem dX1_next_58 : decode cX1_next 58 = .ok (.astore_n 1, 1) := by decide +kernel
theorem dX1_next_59 : decode cX1_next 59 = .ok (.aload_n 0, 1) := by decide +kernel
theorem dX1_next_60 : decode cX1_next 60 = .ok (.dup, 1) := by decide +kernel
theorem dX1_next_61 : decode cX1_next 61 = .ok (.getfield 17, 3) := by decide +kernel
theorem dX1_next_64 : decode cX1_next 64 = .ok (.iconst 1, 1) := by decide +kernel
theorem dX1_next_65 : decode cX1_next 65 = .ok (.iadd, 1) := by decide +kernel
theorem dX1_next_66 : decode cX1_next 66 = .ok (.putfield 17, 3) := by decide +kernel
theorem dX1_next_69 : decode cX1_next 69 = .ok (.aload_n 1, 1) := by decide +kernel
theorem dX1_next_70 : decode cX1_next 70 = .ok (.areturn, 1) := by decide +kernel
theorem dX1_copyFrom_0 : decode cX1_copyFrom 0 = .ok (.aload_n 0, 1) := by decide +kernel
theorem dX1_copyFrom_1 : decode cX1_copyFrom 1 = .ok (.iconst 0, 1) := by decide +kernel
theorem dX1_copyFrom_2 : decode cX1_copyFrom 2 = .ok (.putfield 17, 3) := by decide +kernel
theorem dX1_copyFrom_5 : decode cX1_copyFrom 5 = .ok (.iconst 0, 1) := by decide +kernel
theorem dX1_copyFrom_6 : decode cX1_copyFrom 6 = .ok (.istore_n 2, 1) := by decide +kernel
theorem dX1_copyFrom_7 : decode cX1_copyFrom 7 = .ok (.iload_n 2, 1) := by decide +kernel
theorem dX1_copyFrom_8 : decode cX1_copyFrom 8 = .ok (.aload_n 1, 1) := by decide +kernel
theorem dX1_copyFrom_9 : decode cX1_copyFrom 9 = .ok (.getfield 17, 3) := by decide +kernel
theorem dX1_copyFrom_12 : decode cX1_copyFrom 12 = .ok (.if_icmp .ge 40, 3) := by decide +kernel
theorem dX1_copyFrom_52 : decode cX1_copyFrom 52 = .ok (.return_, 1) := by decide +kernel
theorem dX1_countThere_0 : decode cX1_countThere 0 = .ok (.iconst 0, 1) := by decide +kernel
theorem dX1_countThere_1 : decode cX1_countThere 1 = .ok (.istore_n 1, 1) := by decide +kernel
theorem dX1_countThere_2 : decode cX1_countThere 2 = .ok (.iconst 0, 1) := by decide +kernel
theorem dX1_countThere_3 : decode cX1_countThere 3 = .ok (.istore_n 2, 1) := by decide +kernel
theorem dX1_countThere_4 : decode cX1_countThere 4 = .ok (.iload_n 2, 1) := by decide +kernel
theorem dX1_countThere_5 : decode cX1_countThere 5 = .ok (.aload_n 0, 1) := by decide +kernel
theorem dX1_countThere_6 : decode cX1_countThere 6 = .ok (.getfield 17, 3) := by decide +kernel
theorem dX1_countThere_9 : decode cX1_countThere 9 = .ok (.if_icmp .ge 29, 3) := by decide +kernel
theorem dX1_countThere_38 : decode cX1_countThere 38 = .ok (.iload_n 1, 1) := by decide +kernel
theorem dX1_countThere_39 : decode cX1_countThere 39 = .ok (.ireturn, 1) := by decide +kernel
theorem dX2_init_0 : decode cX2_init 0 = .ok (.aload_n 0, 1) := by decide +kernel
theorem dX2_init_1 : decode cX2_init 1 = .ok (.invokespecial 1, 3) := by decide +kernel
theorem dX2_init_4 : decode cX2_init 4 = .ok (.aload_n 0, 1) := by decide +kernel
theorem dX2_init_5 : decode cX2_init 5 = .ok (.iload_n 1, 1) := by decide +kernel
theorem dX2_init_6 : decode cX2_init 6 = .ok (.putfield 7, 3) := by decide +kernel
theorem dX2_init_9 : decode cX2_init 9 = .ok (.aload_n 0, 1) := by decide +kernel
theorem dX2_init_10 : decode cX2_init 10 = .ok (.iload_n 2, 1) := by decide +kernel
theorem dX2_init_11 : decode cX2_init 11 = .ok (.putfield 13, 3) := by decide +kernel
theorem dX2_init_14 : decode cX2_init 14 = .ok (.aload_n 0, 1) := by decide +kernel
theorem dX2_init_15 : decode cX2_init 15 = .ok (.iload_n 3, 1) := by decide +kernel
theorem dX2_init_16 : decode cX2_init 16 = .ok (.putfield 16, 3) := by decide +kernel
theorem dX2_init_19 : decode cX2_init 19 = .ok (.aload_n 0, 1) := by decide +kernel
theorem dX2_init_20 : decode cX2_init 20 = .ok (.iload 4, 2) := by decide +kernel
theorem dX2_init_22 : decode cX2_init 22 = .ok (.putfield 19, 3) := by decide +kernel
theorem dX2_init_25 : decode cX2_init 25 = .ok (.return_, 1) := by decide +kernel
theorem dX3_init_0 : decode cX3_init 0 = .ok (.aload_n 0, 1) := by decide +kernel
theorem dX3_init_1 : decode cX3_init 1 = .ok (.invokespecial 1, 3) := by decide +kernel
theorem dX3_init_4 : decode cX3_init 4 = .ok (.aload_n 0, 1) := by decide +kernel
theorem dX3_init_5 : decode cX3_init 5 = .ok (.lconst 0, 1) := by decide +kernel
theorem dX3_init_6 : decode cX3_init 6 = .ok (.putfield 7, 3) := by decide +kernel
theorem dX3_init_9 : decode cX3_init 9 = .ok (.aload_n 0, 1) := by decide +kernel
theorem dX3_init_10 : decode cX3_init 10 = .ok (.lconst 1, 1) := by decide +kernel
theorem dX3_init_11 : decode cX3_init 11 = .ok (.putfield 13, 3) := by decide +kernel
theorem dX3_init_14 : decode cX3_init 14 = .ok (.return_, 1) := by decide +kernel
theorem dX4_init_0 : decode cX4_init 0 = .ok (.aload_n 0, 1) := by decide +kernel
theorem dX4_init_1 : decode cX4_init 1 = .ok (.invokespecial 1, 3) := by decide +kernel
theorem dX4_init_4 : decode cX4_init 4 = .ok (.aload_n 0, 1) := by decide +kernel
theorem dX4_init_5 : decode cX4_init 5 = .ok (.new 7, 3) := by decide +kernel
theorem dX4_init_8 : decode cX4_init 8 = .ok (.dup, 1) := by decide +kernel
theorem dX4_init_9 : decode cX4_init 9 = .ok (.invokespecial 9, 3) := by decide +kernel
theorem dX4_init_12 : decode cX4_init 12 = .ok (.putfield 10, 3) := by decide +kernel
theorem dX4_init_15 : decode cX4_init 15 = .ok (.aload_n 0, 1) := by decide +kernel
theorem dX4_init_16 : decode cX4_init 16 = .ok (.new 7, 3) := by decide +kernel
theorem dX4_init_19 : decode cX4_init 19 = .ok (.dup, 1) := by decide +kernel
theorem dX4_init_20 : decode cX4_init 20 = .ok (.invokespecial 9, 3) := by decide +kernel
theorem dX4_init_23 : decode cX4_init 23 = .ok (.putfield 16, 3) := by decide +kernel
theorem dX4_init_26 : decode cX4_init 26 = .ok (.return_, 1) := by decide +kernel
theorem dX6_init_0 : decode cX6_init 0 = .ok (.aload_n 0, 1) := by decide +kernel
theorem dX6_init_1 : decode cX6_init 1 = .ok (.invokespecial 3, 3) := by decide +kernel
theorem dX6_init_4 : decode cX6_init 4 = .ok (.aload_n 0, 1) := by decide +kernel
theorem dX6_init_5 : decode cX6_init 5 = .ok (.bipush 36, 2) := by decide +kernel
theorem dX6_init_7 : decode cX6_init 7 = .ok (.newarray .int, 2) := by decide +kernel
theorem dX6_init_9 : decode cX6_init 9 = .ok (.putfield 9, 3) := by decide +kernel
theorem dX6_init_12 : decode cX6_init 12 = .ok (.return_, 1) := by decide +kernel
theorem dX6_begin_0 : decode cX6_begin 0 = .ok (.aload_n 0, 1) := by decide +kernel
theorem dX6_begin_1 : decode cX6_begin 1 = .ok (.iload_n 1, 1) := by decide +kernel
theorem dX6_begin_2 : decode cX6_begin 2 = .ok (.putfield 15, 3) := by decide +kernel
theorem dX6_begin_5 : decode cX6_begin 5 = .ok (.aload_n 0, 1) := by decide +kernel
theorem dX6_begin_6 : decode cX6_begin 6 = .ok (.iconst 0, 1) := by decide +kernel
theorem dX6_begin_7 : decode cX6_begin 7 = .ok (.putfield 19, 3) := by decide +kernel
theorem dX6_begin_10 : decode cX6_begin 10 = .ok (.aload_n 0, 1) := by decide +kernel
theorem dX6_begin_11 : decode cX6_begin 11 = .ok (.iload_n 2, 1) := by decide +kernel
theorem dX6_begin_12 : decode cX6_begin 12 = .ok (.putfield 22, 3) := by decide +kernel
theorem dX6_begin_15 : decode cX6_begin 15 = .ok (.aload_n 0, 1) := by decide +kernel
theorem dX6_begin_16 : decode cX6_begin 16 = .ok (.iconst 0, 1) := by decide +kernel
theorem dX6_begin_17 : decode cX6_begin 17 = .ok (.putfield 25, 3) := by decide +kernel
theorem dX6_begin_20 : decode cX6_begin 20 = .ok (.return_, 1) := by decide +kernel
theorem dX6_append_0 : decode cX6_append 0 = .ok (.iconst 3, 1) := by decide +kernel
theorem dX6_append_1 : decode cX6_append 1 = .ok (.aload_n 0, 1) := by decide +kernel
theorem dX6_append_2 : decode cX6_append 2 = .ok (.getfield 19, 3) := by decide +kernel
theorem dX6_append_5 : decode cX6_append 5 = .ok (.imul, 1) := by decide +kernel
theorem dX6_append_6 : decode cX6_append 6 = .ok (.istore 4, 2) := by decide +kernel
theorem dX6_append_8 : decode cX6_append 8 = .ok (.iload 4, 2) := by decide +kernel
theorem dX6_append_10 : decode cX6_append 10 = .ok (.ifCond .lt 15, 3) := by decide +kernel
theorem dX6_append_13 : decode cX6_append 13 = .ok (.iload 4, 2) := by decide +kernel
theorem dX6_append_15 : decode cX6_append 15 = .ok (.aload_n 0, 1) := by decide +kernel
theorem dX6_append_16 : decode cX6_append 16 = .ok (.getfield 9, 3) := by decide +kernel
theorem dX6_append_19 : decode cX6_append 19 = .ok (.arraylength, 1) := by decide +kernel
theorem dX6_append_20 : decode cX6_append 20 = .ok (.iconst 3, 1) := by decide +kernel
theorem dX6_append_21 : decode cX6_append 21 = .ok (.isub, 1) := by decide +kernel
theorem dX6_append_22 : decode cX6_append 22 = .ok (.if_icmp .le 5, 3) := by decide +kernel
theorem dX6_append_27 : decode cX6_append 27 = .ok (.aload_n 0, 1) := by decide +kernel
theorem dX6_append_28 : decode cX6_append 28 = .ok (.getfield 9, 3) := by decide +kernel
theorem dX6_append_31 : decode cX6_append 31 = .ok (.iload 4, 2) := by decide +kernel
theorem dX6_append_33 : decode cX6_append 33 = .ok (.iload_n 1, 1) := by decide +kernel
theorem dX6_append_34 : decode cX6_append 34 = .ok (.iastore, 1) := by decide +kernel
theorem dX6_append_35 : decode cX6_append 35 = .ok (.aload_n 0, 1) := by decide +kernel
theorem dX6_append_36 : decode cX6_append 36 = .ok (.getfield 9, 3) := by decide +kernel
theorem dX6_append_39 : decode cX6_append 39 = .ok (.iload 4, 2) := by decide +kernel
theorem dX6_append_41 : decode cX6_append 41 = .ok (.iconst 1, 1) := by decide +kernel
theorem dX6_append_42 : decode cX6_append 42 = .ok (.iadd, 1) := by decide +kernel
theorem dX6_append_43 : decode cX6_append 43 = .ok (.iload_n 2, 1) := by decide +kernel
theorem dX6_append_44 : decode cX6_append 44 = .ok (.iastore, 1) := by decide +kernel
theorem dX6_append_45 : decode cX6_append 45 = .ok (.aload_n 0, 1) := by decide +kernel
theorem dX6_append_46 : decode cX6_append 46 = .ok (.getfield 9, 3) := by decide +kernel
theorem dX6_append_49 : decode cX6_append 49 = .ok (.iload 4, 2) := by decide +kernel
theorem dX6_append_51 : decode cX6_append 51 = .ok (.iconst 2, 1) := by decide +kernel
theorem dX6_append_52 : decode cX6_append 52 = .ok (.iadd, 1) := by decide +kernel
theorem dX6_append_53 : decode cX6_append 53 = .ok (.iload_n 3, 1) := by decide +kernel
theorem dX6_append_54 : decode cX6_append 54 = .ok (.iastore, 1) := by decide +kernel
theorem dX6_append_55 : decode cX6_append 55 = .ok (.aload_n 0, 1) := by decide +kernel
theorem dX6_append_56 : decode cX6_append 56 = .ok (.dup, 1) := by decide +kernel
theorem dX6_append_57 : decode cX6_append 57 = .ok (.getfield 19, 3) := by decide +kernel
theorem dX6_append_60 : decode cX6_append 60 = .ok (.iconst 1, 1) := by decide +kernel
theorem dX6_append_61 : decode cX6_append 61 = .ok (.iadd, 1) := by decide +kernel
theorem dX6_append_62 : decode cX6_append 62 = .ok (.putfield 19, 3) := by decide +kernel
theorem dX6_append_65 : decode cX6_append 65 = .ok (.iconst 1, 1) := by decide +kernel
theorem dX6_append_66 : decode cX6_append 66 = .ok (.ireturn, 1) := by decide +kernel
theorem dX7_init_0 : decode cX7_init 0 = .ok (.aload_n 0, 1) := by decide +kernel
theorem dX7_init_1 : decode cX7_init 1 = .ok (.invokespecial 3, 3) := by decide +kernel
theorem dX7_init_4 : decode cX7_init 4 = .ok (.return_, 1) := by decide +kernel
theorem dX8_init_0 : decode cX8_init 0 = .ok (.aload_n 0, 1) := by decide +kernel
theorem dX8_init_1 : decode cX8_init 1 = .ok (.invokespecial 3, 3) := by decide +kernel
theorem dX8_init_4 : decode cX8_init 4 = .ok (.aload_n 0, 1) := by decide +kernel
theorem dX8_init_5 : decode cX8_init 5 = .ok (.new 9, 3) := by decide +kernel
theorem dX8_init_8 : decode cX8_init 8 = .ok (.dup, 1) := by decide +kernel
theorem dX8_init_9 : decode cX8_init 9 = .ok (.invokespecial 11, 3) := by decide +kernel
theorem dX8_init_12 : decode cX8_init 12 = .ok (.putfield 12, 3) := by decide +kernel
theorem dX8_init_15 : decode cX8_init 15 = .ok (.aload_n 0, 1) := by decide +kernel
theorem dX8_init_16 : decode cX8_init 16 = .ok (.new 9, 3) := by decide +kernel
theorem dX8_init_19 : decode cX8_init 19 = .ok (.dup, 1) := by decide +kernel
theorem dX8_init_20 : decode cX8_init 20 = .ok (.invokespecial 11, 3) := by decide +kernel
theorem dX8_init_23 : decode cX8_init 23 = .ok (.putfield 16, 3) := by decide +kernel
theorem dX8_init_26 : decode cX8_init 26 = .ok (.aload_n 0, 1) := by decide +kernel
theorem dX8_init_27 : decode cX8_init 27 = .ok (.new 9, 3) := by decide +kernel
theorem dX8_init_30 : decode cX8_init 30 = .ok (.dup, 1) := by decide +kernel
theorem dX8_init_31 : decode cX8_init 31 = .ok (.invokespecial 11, 3) := by decide +kernel
theorem dX8_init_34 : decode cX8_init 34 = .ok (.putfield 19, 3) := by decide +kernel
theorem dX8_init_37 : decode cX8_init 37 = .ok (.aload_n 0, 1) := by decide +kernel
theorem dX8_init_38 : decode cX8_init 38 = .ok (.bipush 40, 2) := by decide +kernel
theorem dX8_init_40 : decode cX8_init 40 = .ok (.anewarray 22, 3) := by decide +kernel
theorem dX8_init_43 : decode cX8_init 43 = .ok (.putfield 24, 3) := by decide +kernel
theorem dX8_init_46 : decode cX8_init 46 = .ok (.aload_n 0, 1) := by decide +kernel
theorem dX8_init_47 : decode cX8_init 47 = .ok (.bipush 40, 2) := by decide +kernel
theorem dX8_init_49 : decode cX8_init 49 = .ok (.anewarray 28, 3) := by decide +kernel
theorem dX8_init_52 : decode cX8_init 52 = .ok (.putfield 30, 3) := by decide +kernel
theorem dX8_init_55 : decode cX8_init 55 = .ok (.aload_n 0, 1) := by decide +kernel
theorem dX8_init_56 : decode cX8_init 56 = .ok (.bipush 50, 2) := by decide +kernel
theorem dX8_init_58 : decode cX8_init 58 = .ok (.putfield 34, 3) := by decide +kernel
theorem dX8_init_61 : decode cX8_init 61 = .ok (.aload_n 0, 1) := by decide +kernel
theorem dX8_init_62 : decode cX8_init 62 = .ok (.bipush 20, 2) := by decide +kernel
theorem dX8_init_64 : decode cX8_init 64 = .ok (.putfield 38, 3) := by decide +kernel
theorem dX8_init_67 : decode cX8_init 67 = .ok (.aload_n 0, 1) := by decide +kernel
theorem dX8_init_68 : decode cX8_init 68 = .ok (.new 41, 3) := by decide +kernel
theorem dX8_init_71 : decode cX8_init 71 = .ok (.dup, 1) := by decide +kernel
theorem dX8_init_72 : decode cX8_init 72 = .ok (.invokespecial 43, 3) := by decide +kernel
theorem dX8_init_75 : decode cX8_init 75 = .ok (.putfield 44, 3) := by decide +kernel
theorem dX8_init_78 : decode cX8_init 78 = .ok (.aload_n 0, 1) := by decide +kernel
theorem dX8_init_79 : decode cX8_init 79 = .ok (.new 48, 3) := by decide +kernel
theorem dX8_init_82 : decode cX8_init 82 = .ok (.dup, 1) := by decide +kernel
theorem dX8_init_83 : decode cX8_init 83 = .ok (.invokespecial 50, 3) := by decide +kernel
theorem dX8_init_86 : decode cX8_init 86 = .ok (.putfield 51, 3) := by decide +kernel
theorem dX8_init_89 : decode cX8_init 89 = .ok (.aload_n 0, 1) := by decide +kernel
theorem dX8_init_90 : decode cX8_init 90 = .ok (.new 55, 3) := by decide +kernel
theorem dX8_init_93 : decode cX8_init 93 = .ok (.dup, 1) := by decide +kernel
theorem dX8_init_94 : decode cX8_init 94 = .ok (.invokespecial 57, 3) := by decide +kernel
theorem dX8_init_97 : decode cX8_init 97 = .ok (.putfield 58, 3) := by decide +kernel
theorem dX8_init_100 : decode cX8_init 100 = .ok (.aload_n 0, 1) := by decide +kernel
theorem dX8_init_101 : decode cX8_init 101 = .ok (.new 62, 3) := by decide +kernel
theorem dX8_init_104 : decode cX8_init 104 = .ok (.dup, 1) := by decide +kernel
theorem dX8_init_105 : decode cX8_init 105 = .ok (.invokespecial 64, 3) := by decide +kernel
theorem dX8_init_108 : decode cX8_init 108 = .ok (.putfield 65, 3) := by decide +kernel
theorem dX8_init_111 : decode cX8_init 111 = .ok (.aload_n 0, 1) := by decide +kernel
theorem dX8_init_112 : decode cX8_init 112 = .ok (.new 69, 3) := by decide +kernel
theorem dX8_init_115 : decode cX8_init 115 = .ok (.dup, 1) := by decide +kernel
theorem dX8_init_116 : decode cX8_init 116 = .ok (.invokespecial 71, 3) := by decide +kernel
theorem dX8_init_119 : decode cX8_init 119 = .ok (.putfield 72, 3) := by decide +kernel
theorem dX8_init_122 : decode cX8_init 122 = .ok (.return_, 1) := by decide +kernel
theorem dX8_thing_0 : decode cX8_thing 0 = .ok (.iload_n 1, 1) := by decide +kernel
theorem dX8_thing_1 : decode cX8_thing 1 = .ok (.invokestatic 76, 3) := by decide +kernel
theorem dX8_thing_4 : decode cX8_thing 4 = .ok (.ifCond .eq 25, 3) := by decide +kernel
theorem dX8_thing_7 : decode cX8_thing 7 = .ok (.iload_n 2, 1) := by decide +kernel
theorem dX8_thing_8 : decode cX8_thing 8 = .ok (.iload_n 3, 1) := by decide +kernel
theorem dX8_thing_9 : decode cX8_thing 9 = .ok (.iload 4, 2) := by decide +kernel
theorem dX8_thing_11 : decode cX8_thing 11 = .ok (.invokestatic 80, 3) := by decide +kernel
theorem dX8_thing_14 : decode cX8_thing 14 = .ok (.ifCond .eq 15, 3) := by decide +kernel
theorem dX8_thing_17 : decode cX8_thing 17 = .ok (.iload 5, 2) := by decide +kernel
theorem dX8_thing_19 : decode cX8_thing 19 = .ok (.iconst 0, 1) := by decide +kernel
theorem dX8_thing_20 : decode cX8_thing 20 = .ok (.sipush 200, 3) := by decide +kernel
theorem dX8_thing_23 : decode cX8_thing 23 = .ok (.invokestatic 84, 3) := by decide +kernel
theorem dX8_thing_26 : decode cX8_thing 26 = .ok (.ifCond .ne 6, 3) := by decide +kernel
theorem dX8_thing_29 : decode cX8_thing 29 = .ok (.ldc 87, 2) := by decide +kernel
theorem dX8_thing_31 : decode cX8_thing 31 = .ok (.ireturn, 1) := by decide +kernel
theorem dX8_thing_32 : decode cX8_thing 32 = .ok (.aload_n 0, 1) := by decide +kernel
theorem dX8_thing_33 : decode cX8_thing 33 = .ok (.getfield 12, 3) := by decide +kernel
theorem dX8_thing_36 : decode cX8_thing 36 = .ok (.getfield 88, 3) := by decide +kernel
theorem dX8_thing_39 : decode cX8_thing 39 = .ok (.istore 6, 2) := by decide +kernel
theorem dX8_thing_41 : decode cX8_thing 41 = .ok (.aload_n 0, 1) := by decide +kernel
theorem dX8_thing_42 : decode cX8_thing 42 = .ok (.getfield 12, 3) := by decide +kernel
theorem dX8_thing_45 : decode cX8_thing 45 = .ok (.invokevirtual 91, 3) := by decide +kernel
theorem dX8_thing_48 : decode cX8_thing 48 = .ok (.astore 7, 2) := by decide +kernel
theorem dX8_thing_50 : decode cX8_thing 50 = .ok (.aload 7, 2) := by decide +kernel
theorem dX8_thing_52 : decode cX8_thing 52 = .ok (.ifnonnull 6, 3) := by decide +kernel
theorem dX8_thing_58 : decode cX8_thing 58 = .ok (.aload 7, 2) := by decide +kernel
theorem dX8_thing_60 : decode cX8_thing 60 = .ok (.iload_n 1, 1) := by decide +kernel
theorem dX8_thing_61 : decode cX8_thing 61 = .ok (.iload 5, 2) := by decide +kernel
theorem dX8_thing_63 : decode cX8_thing 63 = .ok (.invokevirtual 96, 3) := by decide +kernel
theorem dX8_thing_66 : decode cX8_thing 66 = .ok (.aload 7, 2) := by decide +kernel
theorem dX8_thing_68 : decode cX8_thing 68 = .ok (.iload_n 2, 1) := by decide +kernel
theorem dX8_thing_69 : decode cX8_thing 69 = .ok (.iload_n 3, 1) := by decide +kernel
theorem dX8_thing_70 : decode cX8_thing 70 = .ok (.iload 4, 2) := by decide +kernel
theorem dX8_thing_72 : decode cX8_thing 72 = .ok (.invokevirtual 100, 3) := by decide +kernel
theorem dX8_thing_75 : decode cX8_thing 75 = .ok (.pop, 1) := by decide +kernel
theorem dX8_thing_76 : decode cX8_thing 76 = .ok (.iload 6, 2) := by decide +kernel
theorem dX8_thing_78 : decode cX8_thing 78 = .ok (.ireturn, 1) := by decide +kernel
theorem dX8_place_0 : decode cX8_place 0 = .ok (.aload_n 0, 1) := by decide +kernel
theorem dX8_place_1 : decode cX8_place 1 = .ok (.getfield 12, 3) := by decide +kernel
theorem dX8_place_4 : decode cX8_place 4 = .ok (.iload_n 1, 1) := by decide +kernel
theorem dX8_place_5 : decode cX8_place 5 = .ok (.invokevirtual 103, 3) := by decide +kernel
theorem dX8_place_8 : decode cX8_place 8 = .ok (.astore 5, 2) := by decide +kernel
theorem dX8_place_10 : decode cX8_place 10 = .ok (.aload 5, 2) := by decide +kernel
theorem dX8_place_12 : decode cX8_place 12 = .ok (.ifnonnull 6, 3) := by decide +kernel
theorem dX8_place_15 : decode cX8_place 15 = .ok (.ldc 107, 2) := by decide +kernel
theorem dX8_place_17 : decode cX8_place 17 = .ok (.ireturn, 1) := by decide +kernel
theorem dX8_gone_0 : decode cX8_gone 0 = .ok (.aload_n 0, 1) := by decide +kernel
theorem dX8_gone_1 : decode cX8_gone 1 = .ok (.getfield 12, 3) := by decide +kernel
theorem dX8_gone_4 : decode cX8_gone 4 = .ok (.iload_n 1, 1) := by decide +kernel
theorem dX8_gone_5 : decode cX8_gone 5 = .ok (.invokevirtual 103, 3) := by decide +kernel
theorem dX8_gone_8 : decode cX8_gone 8 = .ok (.astore_n 2, 1) := by decide +kernel
theorem dX8_gone_9 : decode cX8_gone 9 = .ok (.aload_n 2, 1) := by decide +kernel
theorem dX8_gone_10 : decode cX8_gone 10 = .ok (.ifnonnull 6, 3) := by decide +kernel
theorem dX8_gone_13 : decode cX8_gone 13 = .ok (.ldc 107, 2) := by decide +kernel
theorem dX8_gone_15 : decode cX8_gone 15 = .ok (.ireturn, 1) := by decide +kernel
theorem dX8_breaks_0 : decode cX8_breaks 0 = .ok (.aload_n 0, 1) := by decide +kernel
theorem dX8_breaks_1 : decode cX8_breaks 1 = .ok (.getfield 12, 3) := by decide +kernel
theorem dX8_breaks_4 : decode cX8_breaks 4 = .ok (.iload_n 1, 1) := by decide +kernel
theorem dX8_breaks_5 : decode cX8_breaks 5 = .ok (.invokevirtual 103, 3) := by decide +kernel
theorem dX8_breaks_8 : decode cX8_breaks 8 = .ok (.astore 4, 2) := by decide +kernel
theorem dX8_breaks_10 : decode cX8_breaks 10 = .ok (.aload 4, 2) := by decide +kernel
theorem dX8_breaks_12 : decode cX8_breaks 12 = .ok (.ifnonnull 6, 3) := by decide +kernel
theorem dX8_breaks_15 : decode cX8_breaks 15 = .ok (.ldc 107, 2) := by decide +kernel
theorem dX8_breaks_17 : decode cX8_breaks 17 = .ok (.ireturn, 1) := by decide +kernel
theorem dX8_rule_0 : decode cX8_rule 0 = .ok (.iload_n 1, 1) := by decide +kernel
theorem dX8_rule_1 : decode cX8_rule 1 = .ok (.ifCond .ne 26, 3) := by decide +kernel
theorem dX8_rule_4 : decode cX8_rule 4 = .ok (.iload_n 2, 1) := by decide +kernel
theorem dX8_rule_5 : decode cX8_rule 5 = .ok (.iconst 1, 1) := by decide +kernel
theorem dX8_rule_6 : decode cX8_rule 6 = .ok (.sipush 3000, 3) := by decide +kernel
theorem dX8_rule_9 : decode cX8_rule 9 = .ok (.invokestatic 84, 3) := by decide +kernel
theorem dX8_rule_12 : decode cX8_rule 12 = .ok (.ifCond .eq 15, 3) := by decide +kernel
theorem dX8_rule_15 : decode cX8_rule 15 = .ok (.aload_n 0, 1) := by decide +kernel
theorem dX8_rule_16 : decode cX8_rule 16 = .ok (.getfield 34, 3) := by decide +kernel
theorem dX8_rule_19 : decode cX8_rule 19 = .ok (.istore_n 3, 1) := by decide +kernel
theorem dX8_rule_20 : decode cX8_rule 20 = .ok (.aload_n 0, 1) := by decide +kernel
theorem dX8_rule_21 : decode cX8_rule 21 = .ok (.iload_n 2, 1) := by decide +kernel
theorem dX8_rule_22 : decode cX8_rule 22 = .ok (.putfield 34, 3) := by decide +kernel
theorem dX8_rule_25 : decode cX8_rule 25 = .ok (.iload_n 3, 1) := by decide +kernel
theorem dX8_rule_26 : decode cX8_rule 26 = .ok (.ireturn, 1) := by decide +kernel
theorem dX8_rule_27 : decode cX8_rule 27 = .ok (.iload_n 1, 1) := by decide +kernel
theorem dX8_rule_28 : decode cX8_rule 28 = .ok (.iconst 1, 1) := by decide +kernel
theorem dX8_rule_29 : decode cX8_rule 29 = .ok (.if_icmp .ne 26, 3) := by decide +kernel
theorem dX8_rule_32 : decode cX8_rule 32 = .ok (.iload_n 2, 1) := by decide +kernel
theorem dX8_rule_33 : decode cX8_rule 33 = .ok (.iconst 0, 1) := by decide +kernel
theorem dX8_rule_34 : decode cX8_rule 34 = .ok (.sipush 400, 3) := by decide +kernel
theorem dX8_rule_37 : decode cX8_rule 37 = .ok (.invokestatic 84, 3) := by decide +kernel
theorem dX8_rule_40 : decode cX8_rule 40 = .ok (.ifCond .eq 15, 3) := by decide +kernel
theorem dX8_rule_43 : decode cX8_rule 43 = .ok (.aload_n 0, 1) := by decide +kernel
theorem dX8_rule_44 : decode cX8_rule 44 = .ok (.getfield 38, 3) := by decide +kernel
theorem dX8_rule_47 : decode cX8_rule 47 = .ok (.istore_n 3, 1) := by decide +kernel
theorem dX8_rule_48 : decode cX8_rule 48 = .ok (.aload_n 0, 1) := by decide +kernel
theorem dX8_rule_49 : decode cX8_rule 49 = .ok (.iload_n 2, 1) := by decide +kernel
theorem dX8_rule_50 : decode cX8_rule 50 = .ok (.putfield 38, 3) := by decide +kernel
theorem dX8_rule_53 : decode cX8_rule 53 = .ok (.iload_n 3, 1) := by decide +kernel
theorem dX8_rule_54 : decode cX8_rule 54 = .ok (.ireturn, 1) := by decide +kernel
theorem dX8_rule_55 : decode cX8_rule 55 = .ok (.ldc 87, 2) := by decide +kernel
theorem dX8_rule_57 : decode cX8_rule 57 = .ok (.ireturn, 1) := by decide +kernel
theorem dX8_told_0 : decode cX8_told 0 = .ok (.aload_n 0, 1) := by decide +kernel
theorem dX8_told_1 : decode cX8_told 1 = .ok (.getfield 12, 3) := by decide +kernel
theorem dX8_told_4 : decode cX8_told 4 = .ok (.iload_n 1, 1) := by decide +kernel
theorem dX8_told_5 : decode cX8_told 5 = .ok (.invokevirtual 103, 3) := by decide +kernel
theorem dX8_told_8 : decode cX8_told 8 = .ok (.astore_n 3, 1) := by decide +kernel
theorem dX8_told_9 : decode cX8_told 9 = .ok (.aload_n 3, 1) := by decide +kernel
theorem dX8_told_10 : decode cX8_told 10 = .ok (.ifnonnull 6, 3) := by decide +kernel
theorem dX8_told_13 : decode cX8_told 13 = .ok (.ldc 107, 2) := by decide +kernel
theorem dX8_told_15 : decode cX8_told 15 = .ok (.ireturn, 1) := by decide +kernel
theorem dX8_at_0 : decode cX8_at 0 = .ok (.aload_n 0, 1) := by decide +kernel
theorem dX8_at_1 : decode cX8_at 1 = .ok (.getfield 12, 3) := by decide +kernel
theorem dX8_at_4 : decode cX8_at 4 = .ok (.iload_n 1, 1) := by decide +kernel
theorem dX8_at_5 : decode cX8_at 5 = .ok (.invokevirtual 103, 3) := by decide +kernel
theorem dX8_at_8 : decode cX8_at 8 = .ok (.astore 4, 2) := by decide +kernel
theorem dX8_at_10 : decode cX8_at 10 = .ok (.aload 4, 2) := by decide +kernel
theorem dX8_at_12 : decode cX8_at 12 = .ok (.ifnonnull 6, 3) := by decide +kernel
theorem dX8_at_15 : decode cX8_at 15 = .ok (.ldc 107, 2) := by decide +kernel
theorem dX8_at_17 : decode cX8_at 17 = .ok (.ireturn, 1) := by decide +kernel
theorem dX8_count_0 : decode cX8_count 0 = .ok (.iload_n 1, 1) := by decide +kernel
theorem dX8_count_1 : decode cX8_count 1 = .ok (.tableswitch 118 0 9 #[55, 63, 71, 76, 81, 88, 96, 103, 108, 113], 55) := by decide +kernel
theorem dX8_count_56 : decode cX8_count 56 = .ok (.aload_n 0, 1) := by decide +kernel
theorem dX8_count_57 : decode cX8_count 57 = .ok (.getfield 12, 3) := by decide +kernel
theorem dX8_count_60 : decode cX8_count 60 = .ok (.getfield 88, 3) := by decide +kernel
theorem dX8_count_63 : decode cX8_count 63 = .ok (.ireturn, 1) := by decide +kernel
theorem dX8_count_64 : decode cX8_count 64 = .ok (.aload_n 0, 1) := by decide +kernel
theorem dX8_count_65 : decode cX8_count 65 = .ok (.getfield 12, 3) := by decide +kernel
theorem dX8_count_68 : decode cX8_count 68 = .ok (.invokevirtual 152, 3) := by decide +kernel
theorem dX8_count_71 : decode cX8_count 71 = .ok (.ireturn, 1) := by decide +kernel
theorem dX8_count_72 : decode cX8_count 72 = .ok (.aload_n 0, 1) := by decide +kernel
theorem dX8_count_73 : decode cX8_count 73 = .ok (.invokevirtual 155, 3) := by decide +kernel
theorem dX8_count_76 : decode cX8_count 76 = .ok (.ireturn, 1) := by decide +kernel
theorem dX8_count_77 : decode cX8_count 77 = .ok (.aload_n 0, 1) := by decide +kernel
theorem dX8_count_78 : decode cX8_count 78 = .ok (.getfield 158, 3) := by decide +kernel
theorem dX8_count_81 : decode cX8_count 81 = .ok (.ireturn, 1) := by decide +kernel
theorem dX8_count_82 : decode cX8_count 82 = .ok (.aload_n 0, 1) := by decide +kernel
theorem dX8_count_83 : decode cX8_count 83 = .ok (.iconst 1, 1) := by decide +kernel
theorem dX8_count_84 : decode cX8_count 84 = .ok (.iconst 1, 1) := by decide +kernel
theorem dX8_count_85 : decode cX8_count 85 = .ok (.invokevirtual 161, 3) := by decide +kernel
theorem dX8_count_88 : decode cX8_count 88 = .ok (.ireturn, 1) := by decide +kernel
theorem dX8_count_89 : decode cX8_count 89 = .ok (.aload_n 0, 1) := by decide +kernel
theorem dX8_count_90 : decode cX8_count 90 = .ok (.iconst 2, 1) := by decide +kernel
theorem dX8_count_91 : decode cX8_count 91 = .ok (.bipush 16, 2) := by decide +kernel
theorem dX8_count_93 : decode cX8_count 93 = .ok (.invokevirtual 161, 3) := by decide +kernel
theorem dX8_count_96 : decode cX8_count 96 = .ok (.ireturn, 1) := by decide +kernel
theorem dX8_count_97 : decode cX8_count 97 = .ok (.aload_n 0, 1) := by decide +kernel
theorem dX8_count_98 : decode cX8_count 98 = .ok (.iconst 0, 1) := by decide +kernel
theorem dX8_count_99 : decode cX8_count 99 = .ok (.iconst 0, 1) := by decide +kernel
theorem dX8_count_100 : decode cX8_count 100 = .ok (.invokevirtual 161, 3) := by decide +kernel
theorem dX8_count_103 : decode cX8_count 103 = .ok (.ireturn, 1) := by decide +kernel
theorem dX8_count_104 : decode cX8_count 104 = .ok (.aload_n 0, 1) := by decide +kernel
theorem dX8_count_105 : decode cX8_count 105 = .ok (.getfield 164, 3) := by decide +kernel
theorem dX8_count_108 : decode cX8_count 108 = .ok (.ireturn, 1) := by decide +kernel
theorem dX8_count_109 : decode cX8_count 109 = .ok (.aload_n 0, 1) := by decide +kernel
theorem dX8_count_110 : decode cX8_count 110 = .ok (.invokevirtual 167, 3) := by decide +kernel
theorem dX8_count_113 : decode cX8_count 113 = .ok (.ireturn, 1) := by decide +kernel
theorem dX8_count_114 : decode cX8_count 114 = .ok (.aload_n 0, 1) := by decide +kernel
theorem dX8_count_115 : decode cX8_count 115 = .ok (.getfield 170, 3) := by decide +kernel
theorem dX8_count_118 : decode cX8_count 118 = .ok (.ireturn, 1) := by decide +kernel
theorem dX8_count_119 : decode cX8_count 119 = .ok (.ldc 87, 2) := by decide +kernel
theorem dX8_count_121 : decode cX8_count 121 = .ok (.ireturn, 1) := by decide +kernel
theorem dX8_sieve_0 : decode cX8_sieve 0 = .ok (.aload_n 0, 1) := by decide +kernel
theorem dX8_sieve_1 : decode cX8_sieve 1 = .ok (.getfield 12, 3) := by decide +kernel
theorem dX8_sieve_4 : decode cX8_sieve 4 = .ok (.iload_n 1, 1) := by decide +kernel
theorem dX8_sieve_5 : decode cX8_sieve 5 = .ok (.invokevirtual 103, 3) := by decide +kernel
theorem dX8_sieve_8 : decode cX8_sieve 8 = .ok (.astore_n 3, 1) := by decide +kernel
theorem dX8_sieve_9 : decode cX8_sieve 9 = .ok (.aload_n 0, 1) := by decide +kernel
theorem dX8_sieve_10 : decode cX8_sieve 10 = .ok (.getfield 12, 3) := by decide +kernel
theorem dX8_sieve_13 : decode cX8_sieve 13 = .ok (.iload_n 2, 1) := by decide +kernel
theorem dX8_sieve_14 : decode cX8_sieve 14 = .ok (.invokevirtual 103, 3) := by decide +kernel
theorem dX8_sieve_17 : decode cX8_sieve 17 = .ok (.astore 4, 2) := by decide +kernel
theorem dX8_sieve_19 : decode cX8_sieve 19 = .ok (.aload_n 3, 1) := by decide +kernel
theorem dX8_sieve_20 : decode cX8_sieve 20 = .ok (.ifnull 8, 3) := by decide +kernel
theorem dX8_sieve_28 : decode cX8_sieve 28 = .ok (.ldc 107, 2) := by decide +kernel
theorem dX8_sieve_30 : decode cX8_sieve 30 = .ok (.ireturn, 1) := by decide +kernel
theorem dX8_least_0 : decode cX8_least 0 = .ok (.aload_n 0, 1) := by decide +kernel
theorem dX8_least_1 : decode cX8_least 1 = .ok (.getfield 12, 3) := by decide +kernel
theorem dX8_least_4 : decode cX8_least 4 = .ok (.iload_n 1, 1) := by decide +kernel
theorem dX8_least_5 : decode cX8_least 5 = .ok (.invokevirtual 103, 3) := by decide +kernel
theorem dX8_least_8 : decode cX8_least 8 = .ok (.astore 4, 2) := by decide +kernel
theorem dX8_least_10 : decode cX8_least 10 = .ok (.aload_n 0, 1) := by decide +kernel
theorem dX8_least_11 : decode cX8_least 11 = .ok (.getfield 12, 3) := by decide +kernel
theorem dX8_least_14 : decode cX8_least 14 = .ok (.iload_n 2, 1) := by decide +kernel
theorem dX8_least_15 : decode cX8_least 15 = .ok (.invokevirtual 103, 3) := by decide +kernel
theorem dX8_least_18 : decode cX8_least 18 = .ok (.astore 5, 2) := by decide +kernel
theorem dX8_least_20 : decode cX8_least 20 = .ok (.aload 4, 2) := by decide +kernel
theorem dX8_least_22 : decode cX8_least 22 = .ok (.ifnull 8, 3) := by decide +kernel
theorem dX8_least_30 : decode cX8_least 30 = .ok (.ldc2_w 187, 3) := by decide +kernel
theorem dX8_least_33 : decode cX8_least 33 = .ok (.lreturn, 1) := by decide +kernel
theorem dX8_meeting_0 : decode cX8_meeting 0 = .ok (.iload_n 2, 1) := by decide +kernel
theorem dX8_meeting_1 : decode cX8_meeting 1 = .ok (.iconst 0, 1) := by decide +kernel
theorem dX8_meeting_2 : decode cX8_meeting 2 = .ok (.iconst 1, 1) := by decide +kernel
theorem dX8_meeting_3 : decode cX8_meeting 3 = .ok (.invokestatic 84, 3) := by decide +kernel
theorem dX8_meeting_6 : decode cX8_meeting 6 = .ok (.ifCond .ne 6, 3) := by decide +kernel
theorem dX8_meeting_9 : decode cX8_meeting 9 = .ok (.ldc 87, 2) := by decide +kernel
theorem dX8_meeting_11 : decode cX8_meeting 11 = .ok (.ireturn, 1) := by decide +kernel
theorem dX8_meeting_12 : decode cX8_meeting 12 = .ok (.iconst 0, 1) := by decide +kernel
theorem dX8_meeting_13 : decode cX8_meeting 13 = .ok (.istore_n 3, 1) := by decide +kernel
theorem dX8_meeting_14 : decode cX8_meeting 14 = .ok (.iconst 0, 1) := by decide +kernel
theorem dX8_meeting_15 : decode cX8_meeting 15 = .ok (.istore 4, 2) := by decide +kernel
theorem dX8_meeting_17 : decode cX8_meeting 17 = .ok (.iload 4, 2) := by decide +kernel
theorem dX8_meeting_19 : decode cX8_meeting 19 = .ok (.aload_n 0, 1) := by decide +kernel
theorem dX8_meeting_20 : decode cX8_meeting 20 = .ok (.getfield 12, 3) := by decide +kernel
theorem dX8_meeting_23 : decode cX8_meeting 23 = .ok (.getfield 88, 3) := by decide +kernel
theorem dX8_meeting_26 : decode cX8_meeting 26 = .ok (.if_icmp .ge 64, 3) := by decide +kernel
theorem dX8_meeting_90 : decode cX8_meeting 90 = .ok (.iconst (-1), 1) := by decide +kernel
theorem dX8_meeting_91 : decode cX8_meeting 91 = .ok (.ireturn, 1) := by decide +kernel
theorem dX8_share_0 : decode cX8_share 0 = .ok (.aload_n 0, 1) := by decide +kernel
theorem dX8_share_1 : decode cX8_share 1 = .ok (.getfield 12, 3) := by decide +kernel
theorem dX8_share_4 : decode cX8_share 4 = .ok (.iload_n 1, 1) := by decide +kernel
theorem dX8_share_5 : decode cX8_share 5 = .ok (.invokevirtual 103, 3) := by decide +kernel
theorem dX8_share_8 : decode cX8_share 8 = .ok (.astore 5, 2) := by decide +kernel
theorem dX8_share_10 : decode cX8_share 10 = .ok (.aload_n 0, 1) := by decide +kernel
theorem dX8_share_11 : decode cX8_share 11 = .ok (.getfield 12, 3) := by decide +kernel
theorem dX8_share_14 : decode cX8_share 14 = .ok (.iload_n 2, 1) := by decide +kernel
theorem dX8_share_15 : decode cX8_share 15 = .ok (.invokevirtual 103, 3) := by decide +kernel
theorem dX8_share_18 : decode cX8_share 18 = .ok (.astore 6, 2) := by decide +kernel
theorem dX8_share_20 : decode cX8_share 20 = .ok (.aload 5, 2) := by decide +kernel
theorem dX8_share_22 : decode cX8_share 22 = .ok (.ifnull 8, 3) := by decide +kernel
theorem dX8_share_30 : decode cX8_share 30 = .ok (.ldc2_w 187, 3) := by decide +kernel
theorem dX8_share_33 : decode cX8_share 33 = .ok (.lreturn, 1) := by decide +kernel
theorem dX8_best_0 : decode cX8_best 0 = .ok (.aload_n 0, 1) := by decide +kernel
theorem dX8_best_1 : decode cX8_best 1 = .ok (.getfield 12, 3) := by decide +kernel
theorem dX8_best_4 : decode cX8_best 4 = .ok (.iload_n 1, 1) := by decide +kernel
theorem dX8_best_5 : decode cX8_best 5 = .ok (.invokevirtual 103, 3) := by decide +kernel
theorem dX8_best_8 : decode cX8_best 8 = .ok (.astore 4, 2) := by decide +kernel
theorem dX8_best_10 : decode cX8_best 10 = .ok (.aload 4, 2) := by decide +kernel
theorem dX8_best_12 : decode cX8_best 12 = .ok (.ifnonnull 6, 3) := by decide +kernel
theorem dX8_best_15 : decode cX8_best 15 = .ok (.ldc 107, 2) := by decide +kernel
theorem dX8_best_17 : decode cX8_best 17 = .ok (.ireturn, 1) := by decide +kernel
theorem dX8_burn_0 : decode cX8_burn 0 = .ok (.aload_n 0, 1) := by decide +kernel
theorem dX8_burn_1 : decode cX8_burn 1 = .ok (.getfield 12, 3) := by decide +kernel
theorem dX8_burn_4 : decode cX8_burn 4 = .ok (.iload_n 1, 1) := by decide +kernel
theorem dX8_burn_5 : decode cX8_burn 5 = .ok (.invokevirtual 103, 3) := by decide +kernel
theorem dX8_burn_8 : decode cX8_burn 8 = .ok (.astore 6, 2) := by decide +kernel
theorem dX8_burn_10 : decode cX8_burn 10 = .ok (.aload 6, 2) := by decide +kernel
theorem dX8_burn_12 : decode cX8_burn 12 = .ok (.ifnonnull 6, 3) := by decide +kernel
theorem dX8_burn_15 : decode cX8_burn 15 = .ok (.ldc 107, 2) := by decide +kernel
theorem dX8_burn_17 : decode cX8_burn 17 = .ok (.ireturn, 1) := by decide +kernel
theorem dX8_dot_0 : decode cX8_dot 0 = .ok (.iload_n 1, 1) := by decide +kernel
theorem dX8_dot_1 : decode cX8_dot 1 = .ok (.invokestatic 76, 3) := by decide +kernel
theorem dX8_dot_4 : decode cX8_dot 4 = .ok (.ifCond .eq 13, 3) := by decide +kernel
theorem dX8_dot_7 : decode cX8_dot 7 = .ok (.iload_n 2, 1) := by decide +kernel
theorem dX8_dot_8 : decode cX8_dot 8 = .ok (.iload_n 3, 1) := by decide +kernel
theorem dX8_dot_9 : decode cX8_dot 9 = .ok (.iload 4, 2) := by decide +kernel
theorem dX8_dot_11 : decode cX8_dot 11 = .ok (.invokestatic 80, 3) := by decide +kernel
theorem dX8_dot_14 : decode cX8_dot 14 = .ok (.ifCond .ne 6, 3) := by decide +kernel
theorem dX8_dot_17 : decode cX8_dot 17 = .ok (.ldc 87, 2) := by decide +kernel
theorem dX8_dot_19 : decode cX8_dot 19 = .ok (.ireturn, 1) := by decide +kernel
theorem dX8_dot_20 : decode cX8_dot 20 = .ok (.aload_n 0, 1) := by decide +kernel
theorem dX8_dot_21 : decode cX8_dot 21 = .ok (.getfield 158, 3) := by decide +kernel
theorem dX8_dot_24 : decode cX8_dot 24 = .ok (.istore 5, 2) := by decide +kernel
theorem dX8_dot_26 : decode cX8_dot 26 = .ok (.iload 5, 2) := by decide +kernel
theorem dX8_dot_28 : decode cX8_dot 28 = .ok (.ifCond .lt 13, 3) := by decide +kernel
theorem dX8_dot_31 : decode cX8_dot 31 = .ok (.iload 5, 2) := by decide +kernel
theorem dX8_dot_33 : decode cX8_dot 33 = .ok (.aload_n 0, 1) := by decide +kernel
theorem dX8_dot_34 : decode cX8_dot 34 = .ok (.getfield 24, 3) := by decide +kernel
theorem dX8_dot_37 : decode cX8_dot 37 = .ok (.arraylength, 1) := by decide +kernel
theorem dX8_dot_38 : decode cX8_dot 38 = .ok (.if_icmp .lt 6, 3) := by decide +kernel
theorem dX8_dot_44 : decode cX8_dot 44 = .ok (.aload_n 0, 1) := by decide +kernel
theorem dX8_dot_45 : decode cX8_dot 45 = .ok (.getfield 24, 3) := by decide +kernel
theorem dX8_dot_48 : decode cX8_dot 48 = .ok (.iload 5, 2) := by decide +kernel
theorem dX8_dot_50 : decode cX8_dot 50 = .ok (.new 22, 3) := by decide +kernel
theorem dX8_dot_53 : decode cX8_dot 53 = .ok (.dup, 1) := by decide +kernel
theorem dX8_dot_54 : decode cX8_dot 54 = .ok (.iload_n 1, 1) := by decide +kernel
theorem dX8_dot_55 : decode cX8_dot 55 = .ok (.iload_n 2, 1) := by decide +kernel
theorem dX8_dot_56 : decode cX8_dot 56 = .ok (.iload_n 3, 1) := by decide +kernel
theorem dX8_dot_57 : decode cX8_dot 57 = .ok (.iload 4, 2) := by decide +kernel
theorem dX8_dot_59 : decode cX8_dot 59 = .ok (.invokespecial 256, 3) := by decide +kernel
theorem dX8_dot_62 : decode cX8_dot 62 = .ok (.aastore, 1) := by decide +kernel
theorem dX8_dot_63 : decode cX8_dot 63 = .ok (.aload_n 0, 1) := by decide +kernel
theorem dX8_dot_64 : decode cX8_dot 64 = .ok (.dup, 1) := by decide +kernel
theorem dX8_dot_65 : decode cX8_dot 65 = .ok (.getfield 158, 3) := by decide +kernel
theorem dX8_dot_68 : decode cX8_dot 68 = .ok (.iconst 1, 1) := by decide +kernel
theorem dX8_dot_69 : decode cX8_dot 69 = .ok (.iadd, 1) := by decide +kernel
theorem dX8_dot_70 : decode cX8_dot 70 = .ok (.putfield 158, 3) := by decide +kernel
theorem dX8_dot_73 : decode cX8_dot 73 = .ok (.iload 5, 2) := by decide +kernel
theorem dX8_dot_75 : decode cX8_dot 75 = .ok (.ireturn, 1) := by decide +kernel
theorem dX8_dotted_0 : decode cX8_dotted 0 = .ok (.aload_n 0, 1) := by decide +kernel
theorem dX8_dotted_1 : decode cX8_dotted 1 = .ok (.iload_n 1, 1) := by decide +kernel
theorem dX8_dotted_2 : decode cX8_dotted 2 = .ok (.invokevirtual 258, 3) := by decide +kernel
theorem dX8_dotted_5 : decode cX8_dotted 5 = .ok (.astore_n 3, 1) := by decide +kernel
theorem dX8_dotted_6 : decode cX8_dotted 6 = .ok (.aload_n 3, 1) := by decide +kernel
theorem dX8_dotted_7 : decode cX8_dotted 7 = .ok (.ifnonnull 6, 3) := by decide +kernel
theorem dX8_dotted_10 : decode cX8_dotted 10 = .ok (.ldc 107, 2) := by decide +kernel
theorem dX8_dotted_12 : decode cX8_dotted 12 = .ok (.ireturn, 1) := by decide +kernel
theorem dX8_notice_0 : decode cX8_notice 0 = .ok (.aload_n 0, 1) := by decide +kernel
theorem dX8_notice_1 : decode cX8_notice 1 = .ok (.getfield 12, 3) := by decide +kernel
theorem dX8_notice_4 : decode cX8_notice 4 = .ok (.iload_n 1, 1) := by decide +kernel
theorem dX8_notice_5 : decode cX8_notice 5 = .ok (.invokevirtual 103, 3) := by decide +kernel
theorem dX8_notice_8 : decode cX8_notice 8 = .ok (.astore_n 3, 1) := by decide +kernel
theorem dX8_notice_9 : decode cX8_notice 9 = .ok (.aload_n 0, 1) := by decide +kernel
theorem dX8_notice_10 : decode cX8_notice 10 = .ok (.getfield 12, 3) := by decide +kernel
theorem dX8_notice_13 : decode cX8_notice 13 = .ok (.iload_n 2, 1) := by decide +kernel
theorem dX8_notice_14 : decode cX8_notice 14 = .ok (.invokevirtual 103, 3) := by decide +kernel
theorem dX8_notice_17 : decode cX8_notice 17 = .ok (.astore 4, 2) := by decide +kernel
theorem dX8_notice_19 : decode cX8_notice 19 = .ok (.aload_n 3, 1) := by decide +kernel
theorem dX8_notice_20 : decode cX8_notice 20 = .ok (.ifnull 8, 3) := by decide +kernel
theorem dX8_notice_28 : decode cX8_notice 28 = .ok (.ldc 107, 2) := by decide +kernel
theorem dX8_notice_30 : decode cX8_notice 30 = .ok (.ireturn, 1) := by decide +kernel
theorem dX8_answer_0 : decode cX8_answer 0 = .ok (.aload_n 0, 1) := by decide +kernel
theorem dX8_answer_1 : decode cX8_answer 1 = .ok (.iload_n 1, 1) := by decide +kernel
theorem dX8_answer_2 : decode cX8_answer 2 = .ok (.invokevirtual 292, 3) := by decide +kernel
theorem dX8_answer_5 : decode cX8_answer 5 = .ok (.astore 4, 2) := by decide +kernel
theorem dX8_answer_7 : decode cX8_answer 7 = .ok (.aload 4, 2) := by decide +kernel
theorem dX8_answer_9 : decode cX8_answer 9 = .ok (.ifnull 14, 3) := by decide +kernel
theorem dX8_answer_23 : decode cX8_answer 23 = .ok (.ldc 107, 2) := by decide +kernel
theorem dX8_answer_25 : decode cX8_answer 25 = .ok (.ireturn, 1) := by decide +kernel
theorem dX8_noticed_0 : decode cX8_noticed 0 = .ok (.aload_n 0, 1) := by decide +kernel
theorem dX8_noticed_1 : decode cX8_noticed 1 = .ok (.iload_n 1, 1) := by decide +kernel
theorem dX8_noticed_2 : decode cX8_noticed 2 = .ok (.invokevirtual 292, 3) := by decide +kernel
theorem dX8_noticed_5 : decode cX8_noticed 5 = .ok (.astore_n 3, 1) := by decide +kernel
theorem dX8_noticed_6 : decode cX8_noticed 6 = .ok (.aload_n 3, 1) := by decide +kernel
theorem dX8_noticed_7 : decode cX8_noticed 7 = .ok (.ifnonnull 6, 3) := by decide +kernel
theorem dX8_noticed_10 : decode cX8_noticed 10 = .ok (.ldc 107, 2) := by decide +kernel
theorem dX8_noticed_12 : decode cX8_noticed 12 = .ok (.ireturn, 1) := by decide +kernel
theorem dX8_keep_0 : decode cX8_keep 0 = .ok (.aload_n 0, 1) := by decide +kernel
theorem dX8_keep_1 : decode cX8_keep 1 = .ok (.iload_n 1, 1) := by decide +kernel
theorem dX8_keep_2 : decode cX8_keep 2 = .ok (.invokevirtual 308, 3) := by decide +kernel
theorem dX8_keep_5 : decode cX8_keep 5 = .ok (.astore_n 2, 1) := by decide +kernel
theorem dX8_keep_6 : decode cX8_keep 6 = .ok (.aload_n 2, 1) := by decide +kernel
theorem dX8_keep_7 : decode cX8_keep 7 = .ok (.ifnonnull 6, 3) := by decide +kernel
theorem dX8_keep_10 : decode cX8_keep 10 = .ok (.ldc 107, 2) := by decide +kernel
theorem dX8_keep_12 : decode cX8_keep 12 = .ok (.ireturn, 1) := by decide +kernel
theorem dX8_keep_13 : decode cX8_keep 13 = .ok (.aload_n 2, 1) := by decide +kernel
theorem dX8_keep_14 : decode cX8_keep 14 = .ok (.aload_n 0, 1) := by decide +kernel
theorem dX8_keep_15 : decode cX8_keep 15 = .ok (.getfield 12, 3) := by decide +kernel
theorem dX8_keep_18 : decode cX8_keep 18 = .ok (.invokevirtual 312, 3) := by decide +kernel
theorem dX8_keep_21 : decode cX8_keep 21 = .ok (.aload_n 2, 1) := by decide +kernel
theorem dX8_keep_22 : decode cX8_keep 22 = .ok (.getfield 88, 3) := by decide +kernel
theorem dX8_keep_25 : decode cX8_keep 25 = .ok (.ireturn, 1) := by decide +kernel
theorem dX8_differs_0 : decode cX8_differs 0 = .ok (.aload_n 0, 1) := by decide +kernel
theorem dX8_differs_1 : decode cX8_differs 1 = .ok (.iload_n 1, 1) := by decide +kernel
theorem dX8_differs_2 : decode cX8_differs 2 = .ok (.invokevirtual 308, 3) := by decide +kernel
theorem dX8_differs_5 : decode cX8_differs 5 = .ok (.astore_n 2, 1) := by decide +kernel
theorem dX8_differs_6 : decode cX8_differs 6 = .ok (.aload_n 2, 1) := by decide +kernel
theorem dX8_differs_7 : decode cX8_differs 7 = .ok (.ifnonnull 6, 3) := by decide +kernel
theorem dX8_differs_10 : decode cX8_differs 10 = .ok (.ldc 107, 2) := by decide +kernel
theorem dX8_differs_12 : decode cX8_differs 12 = .ok (.ireturn, 1) := by decide +kernel
theorem dX8_differs_13 : decode cX8_differs 13 = .ok (.aload_n 2, 1) := by decide +kernel
theorem dX8_differs_14 : decode cX8_differs 14 = .ok (.getfield 88, 3) := by decide +kernel
theorem dX8_differs_17 : decode cX8_differs 17 = .ok (.ifCond .ne 8, 3) := by decide +kernel
theorem dX8_differs_20 : decode cX8_differs 20 = .ok (.ldc 116, 2) := by decide +kernel
theorem dX8_differs_22 : decode cX8_differs 22 = .ok (.goto 11, 3) := by decide +kernel
theorem dX8_differs_33 : decode cX8_differs 33 = .ok (.ireturn, 1) := by decide +kernel
theorem dX8_isWithin_0 : decode cX8_isWithin 0 = .ok (.iload_n 0, 1) := by decide +kernel
theorem dX8_isWithin_1 : decode cX8_isWithin 1 = .ok (.iload_n 1, 1) := by decide +kernel
theorem dX8_isWithin_2 : decode cX8_isWithin 2 = .ok (.if_icmp .lt 12, 3) := by decide +kernel
theorem dX8_isWithin_5 : decode cX8_isWithin 5 = .ok (.iload_n 0, 1) := by decide +kernel
theorem dX8_isWithin_6 : decode cX8_isWithin 6 = .ok (.iload_n 2, 1) := by decide +kernel
theorem dX8_isWithin_7 : decode cX8_isWithin 7 = .ok (.if_icmp .gt 7, 3) := by decide +kernel
theorem dX8_isWithin_10 : decode cX8_isWithin 10 = .ok (.iconst 1, 1) := by decide +kernel
theorem dX8_isWithin_11 : decode cX8_isWithin 11 = .ok (.goto 4, 3) := by decide +kernel
theorem dX8_isWithin_14 : decode cX8_isWithin 14 = .ok (.iconst 0, 1) := by decide +kernel
theorem dX8_isWithin_15 : decode cX8_isWithin 15 = .ok (.ireturn, 1) := by decide +kernel
theorem dX8_isStep_0 : decode cX8_isStep 0 = .ok (.iload_n 0, 1) := by decide +kernel
theorem dX8_isStep_1 : decode cX8_isStep 1 = .ok (.iconst 0, 1) := by decide +kernel
theorem dX8_isStep_2 : decode cX8_isStep 2 = .ok (.bipush 39, 2) := by decide +kernel
theorem dX8_isStep_4 : decode cX8_isStep 4 = .ok (.invokestatic 84, 3) := by decide +kernel
theorem dX8_isStep_7 : decode cX8_isStep 7 = .ok (.ireturn, 1) := by decide +kernel
theorem dX8_isPlace_0 : decode cX8_isPlace 0 = .ok (.iload_n 0, 1) := by decide +kernel
theorem dX8_isPlace_1 : decode cX8_isPlace 1 = .ok (.sipush (-5000), 3) := by decide +kernel
theorem dX8_isPlace_4 : decode cX8_isPlace 4 = .ok (.sipush 5000, 3) := by decide +kernel
theorem dX8_isPlace_7 : decode cX8_isPlace 7 = .ok (.invokestatic 84, 3) := by decide +kernel
theorem dX8_isPlace_10 : decode cX8_isPlace 10 = .ok (.ifCond .eq 33, 3) := by decide +kernel
theorem dX8_isPlace_13 : decode cX8_isPlace 13 = .ok (.iload_n 1, 1) := by decide +kernel
theorem dX8_isPlace_14 : decode cX8_isPlace 14 = .ok (.sipush (-5000), 3) := by decide +kernel
theorem dX8_isPlace_17 : decode cX8_isPlace 17 = .ok (.sipush 5000, 3) := by decide +kernel
theorem dX8_isPlace_20 : decode cX8_isPlace 20 = .ok (.invokestatic 84, 3) := by decide +kernel
theorem dX8_isPlace_23 : decode cX8_isPlace 23 = .ok (.ifCond .eq 20, 3) := by decide +kernel
theorem dX8_isPlace_26 : decode cX8_isPlace 26 = .ok (.iload_n 2, 1) := by decide +kernel
theorem dX8_isPlace_27 : decode cX8_isPlace 27 = .ok (.sipush (-5000), 3) := by decide +kernel
theorem dX8_isPlace_30 : decode cX8_isPlace 30 = .ok (.sipush 5000, 3) := by decide +kernel
theorem dX8_isPlace_33 : decode cX8_isPlace 33 = .ok (.invokestatic 84, 3) := by decide +kernel
theorem dX8_isPlace_36 : decode cX8_isPlace 36 = .ok (.ifCond .eq 7, 3) := by decide +kernel
theorem dX8_isPlace_39 : decode cX8_isPlace 39 = .ok (.iconst 1, 1) := by decide +kernel
theorem dX8_isPlace_40 : decode cX8_isPlace 40 = .ok (.goto 4, 3) := by decide +kernel
theorem dX8_isPlace_43 : decode cX8_isPlace 43 = .ok (.iconst 0, 1) := by decide +kernel
theorem dX8_isPlace_44 : decode cX8_isPlace 44 = .ok (.ireturn, 1) := by decide +kernel
theorem dX8_countMeetings_0 : decode cX8_countMeetings 0 = .ok (.iconst 0, 1) := by decide +kernel
theorem dX8_countMeetings_1 : decode cX8_countMeetings 1 = .ok (.istore_n 1, 1) := by decide +kernel
theorem dX8_countMeetings_2 : decode cX8_countMeetings 2 = .ok (.iconst 0, 1) := by decide +kernel
theorem dX8_countMeetings_3 : decode cX8_countMeetings 3 = .ok (.istore_n 2, 1) := by decide +kernel
theorem dX8_countMeetings_4 : decode cX8_countMeetings 4 = .ok (.iload_n 2, 1) := by decide +kernel
theorem dX8_countMeetings_5 : decode cX8_countMeetings 5 = .ok (.aload_n 0, 1) := by decide +kernel
theorem dX8_countMeetings_6 : decode cX8_countMeetings 6 = .ok (.getfield 12, 3) := by decide +kernel
theorem dX8_countMeetings_9 : decode cX8_countMeetings 9 = .ok (.getfield 88, 3) := by decide +kernel
theorem dX8_countMeetings_12 : decode cX8_countMeetings 12 = .ok (.if_icmp .ge 42, 3) := by decide +kernel
theorem dX8_countMeetings_54 : decode cX8_countMeetings 54 = .ok (.iload_n 1, 1) := by decide +kernel
theorem dX8_countMeetings_55 : decode cX8_countMeetings 55 = .ok (.ireturn, 1) := by decide +kernel
theorem dX8_findDot_0 : decode cX8_findDot 0 = .ok (.iload_n 1, 1) := by decide +kernel
theorem dX8_findDot_1 : decode cX8_findDot 1 = .ok (.ifCond .lt 29, 3) := by decide +kernel
theorem dX8_findDot_4 : decode cX8_findDot 4 = .ok (.iload_n 1, 1) := by decide +kernel
theorem dX8_findDot_5 : decode cX8_findDot 5 = .ok (.aload_n 0, 1) := by decide +kernel
theorem dX8_findDot_6 : decode cX8_findDot 6 = .ok (.getfield 158, 3) := by decide +kernel
theorem dX8_findDot_9 : decode cX8_findDot 9 = .ok (.if_icmp .ge 21, 3) := by decide +kernel
theorem dX8_findDot_30 : decode cX8_findDot 30 = .ok (.aconst_null, 1) := by decide +kernel

theorem dX1_init_0 : decode cX1_init 0 = .ok (.aload_n 0, 1) := by decide +kernel
theorem dX1_init_1 : decode cX1_init 1 = .ok (.invokespecial 3, 3) := by decide +kernel
theorem dX1_init_4 : decode cX1_init 4 = .ok (.aload_n 0, 1) := by decide +kernel
theorem dX1_init_5 : decode cX1_init 5 = .ok (.bipush 16, 2) := by decide +kernel
theorem dX1_init_7 : decode cX1_init 7 = .ok (.anewarray 9, 3) := by decide +kernel
theorem dX1_init_10 : decode cX1_init 10 = .ok (.putfield 11, 3) := by decide +kernel
theorem dX1_init_13 : decode cX1_init 13 = .ok (.return_, 1) := by decide +kernel
theorem dX1_find_0 : decode cX1_find 0 = .ok (.iload_n 1, 1) := by decide +kernel
theorem dX1_find_1 : decode cX1_find 1 = .ok (.ifCond .lt 29, 3) := by decide +kernel
theorem dX1_find_4 : decode cX1_find 4 = .ok (.iload_n 1, 1) := by decide +kernel
theorem dX1_find_5 : decode cX1_find 5 = .ok (.aload_n 0, 1) := by decide +kernel
theorem dX1_find_6 : decode cX1_find 6 = .ok (.getfield 17, 3) := by decide +kernel
theorem dX1_find_9 : decode cX1_find 9 = .ok (.if_icmp .ge 21, 3) := by decide +kernel
theorem dX1_find_12 : decode cX1_find 12 = .ok (.iload_n 1, 1) := by decide +kernel
theorem dX1_find_13 : decode cX1_find 13 = .ok (.aload_n 0, 1) := by decide +kernel
theorem dX1_find_14 : decode cX1_find 14 = .ok (.getfield 11, 3) := by decide +kernel
theorem dX1_find_17 : decode cX1_find 17 = .ok (.arraylength, 1) := by decide +kernel
theorem dX1_find_18 : decode cX1_find 18 = .ok (.if_icmp .ge 12, 3) := by decide +kernel
theorem dX1_find_21 : decode cX1_find 21 = .ok (.aload_n 0, 1) := by decide +kernel
theorem dX1_find_22 : decode cX1_find 22 = .ok (.getfield 11, 3) := by decide +kernel
theorem dX1_find_25 : decode cX1_find 25 = .ok (.iload_n 1, 1) := by decide +kernel
theorem dX1_find_26 : decode cX1_find 26 = .ok (.aaload, 1) := by decide +kernel
theorem dX1_find_27 : decode cX1_find 27 = .ok (.goto 4, 3) := by decide +kernel
theorem dX1_find_30 : decode cX1_find 30 = .ok (.aconst_null, 1) := by decide +kernel
theorem dX1_find_31 : decode cX1_find 31 = .ok (.areturn, 1) := by decide +kernel
theorem dX1_next_0 : decode cX1_next 0 = .ok (.aload_n 0, 1) := by decide +kernel
theorem dX1_next_1 : decode cX1_next 1 = .ok (.getfield 17, 3) := by decide +kernel
theorem dX1_next_4 : decode cX1_next 4 = .ok (.ifCond .lt 15, 3) := by decide +kernel
theorem dX1_next_7 : decode cX1_next 7 = .ok (.aload_n 0, 1) := by decide +kernel
theorem dX1_next_8 : decode cX1_next 8 = .ok (.getfield 17, 3) := by decide +kernel
theorem dX1_next_11 : decode cX1_next 11 = .ok (.aload_n 0, 1) := by decide +kernel
theorem dX1_next_12 : decode cX1_next 12 = .ok (.getfield 11, 3) := by decide +kernel
theorem dX1_next_15 : decode cX1_next 15 = .ok (.arraylength, 1) := by decide +kernel
theorem dX1_next_16 : decode cX1_next 16 = .ok (.if_icmp .lt 5, 3) := by decide +kernel
theorem dX1_next_19 : decode cX1_next 19 = .ok (.aconst_null, 1) := by decide +kernel
theorem dX1_next_20 : decode cX1_next 20 = .ok (.areturn, 1) := by decide +kernel
theorem dX1_next_21 : decode cX1_next 21 = .ok (.aload_n 0, 1) := by decide +kernel
theorem dX1_next_22 : decode cX1_next 22 = .ok (.getfield 11, 3) := by decide +kernel
theorem dX1_next_25 : decode cX1_next 25 = .ok (.aload_n 0, 1) := by decide +kernel
theorem dX1_next_26 : decode cX1_next 26 = .ok (.getfield 17, 3) := by decide +kernel
theorem dX1_next_29 : decode cX1_next 29 = .ok (.aaload, 1) := by decide +kernel
theorem dX1_next_30 : decode cX1_next 30 = .ok (.ifnonnull 19, 3) := by decide +kernel
theorem dX1_next_33 : decode cX1_next 33 = .ok (.aload_n 0, 1) := by decide +kernel
theorem dX1_next_34 : decode cX1_next 34 = .ok (.getfield 11, 3) := by decide +kernel
theorem dX1_next_37 : decode cX1_next 37 = .ok (.aload_n 0, 1) := by decide +kernel
theorem dX1_next_38 : decode cX1_next 38 = .ok (.getfield 17, 3) := by decide +kernel
theorem dX1_next_41 : decode cX1_next 41 = .ok (.new 9, 3) := by decide +kernel
theorem dX1_next_44 : decode cX1_next 44 = .ok (.dup, 1) := by decide +kernel
theorem dX1_next_45 : decode cX1_next 45 = .ok (.invokespecial 21, 3) := by decide +kernel
theorem dX1_next_48 : decode cX1_next 48 = .ok (.aastore, 1) := by decide +kernel
theorem dX1_next_49 : decode cX1_next 49 = .ok (.aload_n 0, 1) := by decide +kernel
theorem dX1_next_50 : decode cX1_next 50 = .ok (.getfield 11, 3) := by decide +kernel
theorem dX1_next_53 : decode cX1_next 53 = .ok (.aload_n 0, 1) := by decide +kernel
theorem dX1_next_54 : decode cX1_next 54 = .ok (.getfield 17, 3) := by decide +kernel
theorem dX1_next_57 : decode cX1_next 57 = .ok (.aaload, 1) := by decide +kernel
theorem dX1_next_58 : decode cX1_next 58 = .ok (.astore_n 1, 1) := by decide +kernel
theorem dX1_next_59 : decode cX1_next 59 = .ok (.aload_n 0, 1) := by decide +kernel
theorem dX1_next_60 : decode cX1_next 60 = .ok (.dup, 1) := by decide +kernel
theorem dX1_next_61 : decode cX1_next 61 = .ok (.getfield 17, 3) := by decide +kernel
theorem dX1_next_64 : decode cX1_next 64 = .ok (.iconst 1, 1) := by decide +kernel
theorem dX1_next_65 : decode cX1_next 65 = .ok (.iadd, 1) := by decide +kernel
theorem dX1_next_66 : decode cX1_next 66 = .ok (.putfield 17, 3) := by decide +kernel
theorem dX1_next_69 : decode cX1_next 69 = .ok (.aload_n 1, 1) := by decide +kernel
theorem dX1_next_70 : decode cX1_next 70 = .ok (.areturn, 1) := by decide +kernel
theorem dX1_copyFrom_0 : decode cX1_copyFrom 0 = .ok (.aload_n 0, 1) := by decide +kernel
theorem dX1_copyFrom_1 : decode cX1_copyFrom 1 = .ok (.iconst 0, 1) := by decide +kernel
theorem dX1_copyFrom_2 : decode cX1_copyFrom 2 = .ok (.putfield 17, 3) := by decide +kernel
theorem dX1_copyFrom_5 : decode cX1_copyFrom 5 = .ok (.iconst 0, 1) := by decide +kernel
theorem dX1_copyFrom_6 : decode cX1_copyFrom 6 = .ok (.istore_n 2, 1) := by decide +kernel
theorem dX1_copyFrom_7 : decode cX1_copyFrom 7 = .ok (.iload_n 2, 1) := by decide +kernel
theorem dX1_copyFrom_8 : decode cX1_copyFrom 8 = .ok (.aload_n 1, 1) := by decide +kernel
theorem dX1_copyFrom_9 : decode cX1_copyFrom 9 = .ok (.getfield 17, 3) := by decide +kernel
theorem dX1_copyFrom_12 : decode cX1_copyFrom 12 = .ok (.if_icmp .ge 40, 3) := by decide +kernel
theorem dX1_copyFrom_15 : decode cX1_copyFrom 15 = .ok (.aload_n 1, 1) := by decide +kernel
theorem dX1_copyFrom_16 : decode cX1_copyFrom 16 = .ok (.iload_n 2, 1) := by decide +kernel
theorem dX1_copyFrom_17 : decode cX1_copyFrom 17 = .ok (.invokevirtual 22, 3) := by decide +kernel
theorem dX1_copyFrom_20 : decode cX1_copyFrom 20 = .ok (.astore_n 3, 1) := by decide +kernel
theorem dX1_copyFrom_21 : decode cX1_copyFrom 21 = .ok (.aload_n 0, 1) := by decide +kernel
theorem dX1_copyFrom_22 : decode cX1_copyFrom 22 = .ok (.invokevirtual 26, 3) := by decide +kernel
theorem dX1_copyFrom_25 : decode cX1_copyFrom 25 = .ok (.astore 4, 2) := by decide +kernel
theorem dX1_copyFrom_27 : decode cX1_copyFrom 27 = .ok (.aload_n 3, 1) := by decide +kernel
theorem dX1_copyFrom_28 : decode cX1_copyFrom 28 = .ok (.ifnull 18, 3) := by decide +kernel
theorem dX1_copyFrom_31 : decode cX1_copyFrom 31 = .ok (.aload 4, 2) := by decide +kernel
theorem dX1_copyFrom_33 : decode cX1_copyFrom 33 = .ok (.ifnull 13, 3) := by decide +kernel
theorem dX1_copyFrom_36 : decode cX1_copyFrom 36 = .ok (.aload 4, 2) := by decide +kernel
theorem dX1_copyFrom_38 : decode cX1_copyFrom 38 = .ok (.aload_n 3, 1) := by decide +kernel
theorem dX1_copyFrom_39 : decode cX1_copyFrom 39 = .ok (.aload_n 3, 1) := by decide +kernel
theorem dX1_copyFrom_40 : decode cX1_copyFrom 40 = .ok (.getfield 30, 3) := by decide +kernel
theorem dX1_copyFrom_43 : decode cX1_copyFrom 43 = .ok (.invokevirtual 33, 3) := by decide +kernel
theorem dX1_copyFrom_46 : decode cX1_copyFrom 46 = .ok (.iinc 2 1, 3) := by decide +kernel
theorem dX1_copyFrom_49 : decode cX1_copyFrom 49 = .ok (.goto (-42), 3) := by decide +kernel
theorem dX1_copyFrom_52 : decode cX1_copyFrom 52 = .ok (.return_, 1) := by decide +kernel
theorem dX1_countThere_0 : decode cX1_countThere 0 = .ok (.iconst 0, 1) := by decide +kernel
theorem dX1_countThere_1 : decode cX1_countThere 1 = .ok (.istore_n 1, 1) := by decide +kernel
theorem dX1_countThere_2 : decode cX1_countThere 2 = .ok (.iconst 0, 1) := by decide +kernel
theorem dX1_countThere_3 : decode cX1_countThere 3 = .ok (.istore_n 2, 1) := by decide +kernel
theorem dX1_countThere_4 : decode cX1_countThere 4 = .ok (.iload_n 2, 1) := by decide +kernel
theorem dX1_countThere_5 : decode cX1_countThere 5 = .ok (.aload_n 0, 1) := by decide +kernel
theorem dX1_countThere_6 : decode cX1_countThere 6 = .ok (.getfield 17, 3) := by decide +kernel
theorem dX1_countThere_9 : decode cX1_countThere 9 = .ok (.if_icmp .ge 29, 3) := by decide +kernel
theorem dX1_countThere_12 : decode cX1_countThere 12 = .ok (.aload_n 0, 1) := by decide +kernel
theorem dX1_countThere_13 : decode cX1_countThere 13 = .ok (.iload_n 2, 1) := by decide +kernel
theorem dX1_countThere_14 : decode cX1_countThere 14 = .ok (.invokevirtual 22, 3) := by decide +kernel
theorem dX1_countThere_17 : decode cX1_countThere 17 = .ok (.astore_n 3, 1) := by decide +kernel
theorem dX1_countThere_18 : decode cX1_countThere 18 = .ok (.aload_n 3, 1) := by decide +kernel
theorem dX1_countThere_19 : decode cX1_countThere 19 = .ok (.ifnull 13, 3) := by decide +kernel
theorem dX1_countThere_22 : decode cX1_countThere 22 = .ok (.aload_n 3, 1) := by decide +kernel
theorem dX1_countThere_23 : decode cX1_countThere 23 = .ok (.getfield 37, 3) := by decide +kernel
theorem dX1_countThere_26 : decode cX1_countThere 26 = .ok (.ifCond .ne 6, 3) := by decide +kernel
theorem dX1_countThere_29 : decode cX1_countThere 29 = .ok (.iinc 1 1, 3) := by decide +kernel
theorem dX1_countThere_32 : decode cX1_countThere 32 = .ok (.iinc 2 1, 3) := by decide +kernel
theorem dX1_countThere_35 : decode cX1_countThere 35 = .ok (.goto (-31), 3) := by decide +kernel
theorem dX1_countThere_38 : decode cX1_countThere 38 = .ok (.iload_n 1, 1) := by decide +kernel
theorem dX1_countThere_39 : decode cX1_countThere 39 = .ok (.ireturn, 1) := by decide +kernel
theorem dX1_countDifferences_0 : decode cX1_countDifferences 0 = .ok (.iconst 0, 1) := by decide +kernel
theorem dX1_countDifferences_1 : decode cX1_countDifferences 1 = .ok (.istore_n 2, 1) := by decide +kernel
theorem dX1_countDifferences_2 : decode cX1_countDifferences 2 = .ok (.iconst 0, 1) := by decide +kernel
theorem dX1_countDifferences_3 : decode cX1_countDifferences 3 = .ok (.istore_n 3, 1) := by decide +kernel
theorem dX1_countDifferences_4 : decode cX1_countDifferences 4 = .ok (.iload_n 3, 1) := by decide +kernel
theorem dX1_countDifferences_5 : decode cX1_countDifferences 5 = .ok (.aload_n 0, 1) := by decide +kernel
theorem dX1_countDifferences_6 : decode cX1_countDifferences 6 = .ok (.getfield 17, 3) := by decide +kernel
theorem dX1_countDifferences_9 : decode cX1_countDifferences 9 = .ok (.if_icmp .lt 11, 3) := by decide +kernel
theorem dX1_countDifferences_12 : decode cX1_countDifferences 12 = .ok (.iload_n 3, 1) := by decide +kernel
theorem dX1_countDifferences_13 : decode cX1_countDifferences 13 = .ok (.aload_n 1, 1) := by decide +kernel
theorem dX1_countDifferences_14 : decode cX1_countDifferences 14 = .ok (.getfield 17, 3) := by decide +kernel
theorem dX1_countDifferences_17 : decode cX1_countDifferences 17 = .ok (.if_icmp .ge 46, 3) := by decide +kernel
theorem dX1_countDifferences_20 : decode cX1_countDifferences 20 = .ok (.aload_n 0, 1) := by decide +kernel
theorem dX1_countDifferences_21 : decode cX1_countDifferences 21 = .ok (.iload_n 3, 1) := by decide +kernel
theorem dX1_countDifferences_22 : decode cX1_countDifferences 22 = .ok (.invokevirtual 22, 3) := by decide +kernel
theorem dX1_countDifferences_25 : decode cX1_countDifferences 25 = .ok (.astore 4, 2) := by decide +kernel
theorem dX1_countDifferences_27 : decode cX1_countDifferences 27 = .ok (.aload_n 1, 1) := by decide +kernel
theorem dX1_countDifferences_28 : decode cX1_countDifferences 28 = .ok (.iload_n 3, 1) := by decide +kernel
theorem dX1_countDifferences_29 : decode cX1_countDifferences 29 = .ok (.invokevirtual 22, 3) := by decide +kernel
theorem dX1_countDifferences_32 : decode cX1_countDifferences 32 = .ok (.astore 5, 2) := by decide +kernel
theorem dX1_countDifferences_34 : decode cX1_countDifferences 34 = .ok (.aload 4, 2) := by decide +kernel
theorem dX1_countDifferences_36 : decode cX1_countDifferences 36 = .ok (.ifnull 18, 3) := by decide +kernel
theorem dX1_countDifferences_39 : decode cX1_countDifferences 39 = .ok (.aload 5, 2) := by decide +kernel
theorem dX1_countDifferences_41 : decode cX1_countDifferences 41 = .ok (.ifnull 13, 3) := by decide +kernel
theorem dX1_countDifferences_44 : decode cX1_countDifferences 44 = .ok (.aload 4, 2) := by decide +kernel
theorem dX1_countDifferences_46 : decode cX1_countDifferences 46 = .ok (.aload 5, 2) := by decide +kernel
theorem dX1_countDifferences_48 : decode cX1_countDifferences 48 = .ok (.invokevirtual 41, 3) := by decide +kernel
theorem dX1_countDifferences_51 : decode cX1_countDifferences 51 = .ok (.ifCond .ne 6, 3) := by decide +kernel
theorem dX1_countDifferences_54 : decode cX1_countDifferences 54 = .ok (.iinc 2 1, 3) := by decide +kernel
theorem dX1_countDifferences_57 : decode cX1_countDifferences 57 = .ok (.iinc 3 1, 3) := by decide +kernel
theorem dX1_countDifferences_60 : decode cX1_countDifferences 60 = .ok (.goto (-56), 3) := by decide +kernel
theorem dX1_countDifferences_63 : decode cX1_countDifferences 63 = .ok (.iload_n 2, 1) := by decide +kernel
theorem dX1_countDifferences_64 : decode cX1_countDifferences 64 = .ok (.ireturn, 1) := by decide +kernel
theorem dX1_isHolder_0 : decode cX1_isHolder 0 = .ok (.aload_n 0, 1) := by decide +kernel
theorem dX1_isHolder_1 : decode cX1_isHolder 1 = .ok (.iload_n 1, 1) := by decide +kernel
theorem dX1_isHolder_2 : decode cX1_isHolder 2 = .ok (.invokevirtual 22, 3) := by decide +kernel
theorem dX1_isHolder_5 : decode cX1_isHolder 5 = .ok (.astore_n 3, 1) := by decide +kernel
theorem dX1_isHolder_6 : decode cX1_isHolder 6 = .ok (.aload_n 3, 1) := by decide +kernel
theorem dX1_isHolder_7 : decode cX1_isHolder 7 = .ok (.ifnull 22, 3) := by decide +kernel
theorem dX1_isHolder_10 : decode cX1_isHolder 10 = .ok (.aload_n 3, 1) := by decide +kernel
theorem dX1_isHolder_11 : decode cX1_isHolder 11 = .ok (.getfield 37, 3) := by decide +kernel
theorem dX1_isHolder_14 : decode cX1_isHolder 14 = .ok (.ifCond .ne 15, 3) := by decide +kernel
theorem dX1_isHolder_17 : decode cX1_isHolder 17 = .ok (.aload_n 3, 1) := by decide +kernel
theorem dX1_isHolder_18 : decode cX1_isHolder 18 = .ok (.aload_n 2, 1) := by decide +kernel
theorem dX1_isHolder_19 : decode cX1_isHolder 19 = .ok (.invokevirtual 45, 3) := by decide +kernel
theorem dX1_isHolder_22 : decode cX1_isHolder 22 = .ok (.ifCond .eq 7, 3) := by decide +kernel
theorem dX1_isHolder_25 : decode cX1_isHolder 25 = .ok (.iconst 1, 1) := by decide +kernel
theorem dX1_isHolder_26 : decode cX1_isHolder 26 = .ok (.goto 4, 3) := by decide +kernel
theorem dX1_isHolder_29 : decode cX1_isHolder 29 = .ok (.iconst 0, 1) := by decide +kernel
theorem dX1_isHolder_30 : decode cX1_isHolder 30 = .ok (.ireturn, 1) := by decide +kernel
theorem dX1_countHolders_0 : decode cX1_countHolders 0 = .ok (.iconst 0, 1) := by decide +kernel
theorem dX1_countHolders_1 : decode cX1_countHolders 1 = .ok (.istore_n 2, 1) := by decide +kernel
theorem dX1_countHolders_2 : decode cX1_countHolders 2 = .ok (.iconst 0, 1) := by decide +kernel
theorem dX1_countHolders_3 : decode cX1_countHolders 3 = .ok (.istore_n 3, 1) := by decide +kernel
theorem dX1_countHolders_4 : decode cX1_countHolders 4 = .ok (.iload_n 3, 1) := by decide +kernel
theorem dX1_countHolders_5 : decode cX1_countHolders 5 = .ok (.aload_n 0, 1) := by decide +kernel
theorem dX1_countHolders_6 : decode cX1_countHolders 6 = .ok (.getfield 17, 3) := by decide +kernel
theorem dX1_countHolders_9 : decode cX1_countHolders 9 = .ok (.if_icmp .ge 21, 3) := by decide +kernel
theorem dX1_countHolders_12 : decode cX1_countHolders 12 = .ok (.aload_n 0, 1) := by decide +kernel
theorem dX1_countHolders_13 : decode cX1_countHolders 13 = .ok (.iload_n 3, 1) := by decide +kernel
theorem dX1_countHolders_14 : decode cX1_countHolders 14 = .ok (.aload_n 1, 1) := by decide +kernel
theorem dX1_countHolders_15 : decode cX1_countHolders 15 = .ok (.invokevirtual 49, 3) := by decide +kernel
theorem dX1_countHolders_18 : decode cX1_countHolders 18 = .ok (.ifCond .eq 6, 3) := by decide +kernel
theorem dX1_countHolders_21 : decode cX1_countHolders 21 = .ok (.iinc 2 1, 3) := by decide +kernel
theorem dX1_countHolders_24 : decode cX1_countHolders 24 = .ok (.iinc 3 1, 3) := by decide +kernel
theorem dX1_countHolders_27 : decode cX1_countHolders 27 = .ok (.goto (-23), 3) := by decide +kernel
theorem dX1_countHolders_30 : decode cX1_countHolders 30 = .ok (.iload_n 2, 1) := by decide +kernel
theorem dX1_countHolders_31 : decode cX1_countHolders 31 = .ok (.ireturn, 1) := by decide +kernel
theorem dX1_firstHolder_0 : decode cX1_firstHolder 0 = .ok (.iconst 0, 1) := by decide +kernel
theorem dX1_firstHolder_1 : decode cX1_firstHolder 1 = .ok (.istore_n 2, 1) := by decide +kernel
theorem dX1_firstHolder_2 : decode cX1_firstHolder 2 = .ok (.iload_n 2, 1) := by decide +kernel
theorem dX1_firstHolder_3 : decode cX1_firstHolder 3 = .ok (.aload_n 0, 1) := by decide +kernel
theorem dX1_firstHolder_4 : decode cX1_firstHolder 4 = .ok (.getfield 17, 3) := by decide +kernel
theorem dX1_firstHolder_7 : decode cX1_firstHolder 7 = .ok (.if_icmp .ge 20, 3) := by decide +kernel
theorem dX1_firstHolder_10 : decode cX1_firstHolder 10 = .ok (.aload_n 0, 1) := by decide +kernel
theorem dX1_firstHolder_11 : decode cX1_firstHolder 11 = .ok (.iload_n 2, 1) := by decide +kernel
theorem dX1_firstHolder_12 : decode cX1_firstHolder 12 = .ok (.aload_n 1, 1) := by decide +kernel
theorem dX1_firstHolder_13 : decode cX1_firstHolder 13 = .ok (.invokevirtual 49, 3) := by decide +kernel
theorem dX1_firstHolder_16 : decode cX1_firstHolder 16 = .ok (.ifCond .eq 5, 3) := by decide +kernel
theorem dX1_firstHolder_19 : decode cX1_firstHolder 19 = .ok (.iload_n 2, 1) := by decide +kernel
theorem dX1_firstHolder_20 : decode cX1_firstHolder 20 = .ok (.ireturn, 1) := by decide +kernel
theorem dX1_firstHolder_21 : decode cX1_firstHolder 21 = .ok (.iinc 2 1, 3) := by decide +kernel
theorem dX1_firstHolder_24 : decode cX1_firstHolder 24 = .ok (.goto (-22), 3) := by decide +kernel
theorem dX1_firstHolder_27 : decode cX1_firstHolder 27 = .ok (.iconst (-1), 1) := by decide +kernel
theorem dX1_firstHolder_28 : decode cX1_firstHolder 28 = .ok (.ireturn, 1) := by decide +kernel

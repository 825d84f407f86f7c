theorem dX0_init_0 : decode cX0_init 0 = .ok (.aload_n 0, 1) := by decide +kernel
theorem dX0_init_1 : decode cX0_init 1 = .ok (.invokespecial 3, 3) := by decide +kernel
theorem dX0_init_4 : decode cX0_init 4 = .ok (.return_, 1) := by decide +kernel
theorem dX0_become_0 : decode cX0_become 0 = .ok (.aload_n 0, 1) := by decide +kernel
theorem dX0_become_1 : decode cX0_become 1 = .ok (.iload_n 1, 1) := by decide +kernel
theorem dX0_become_2 : decode cX0_become 2 = .ok (.putfield 9, 3) := by decide +kernel
theorem dX0_become_5 : decode cX0_become 5 = .ok (.aload_n 0, 1) := by decide +kernel
theorem dX0_become_6 : decode cX0_become 6 = .ok (.iload_n 2, 1) := by decide +kernel
theorem dX0_become_7 : decode cX0_become 7 = .ok (.bipush 25, 2) := by decide +kernel
theorem dX0_become_9 : decode cX0_become 9 = .ok (.idiv, 1) := by decide +kernel
theorem dX0_become_10 : decode cX0_become 10 = .ok (.iconst 2, 1) := by decide +kernel
theorem dX0_become_11 : decode cX0_become 11 = .ok (.isub, 1) := by decide +kernel
theorem dX0_become_12 : decode cX0_become 12 = .ok (.putfield 15, 3) := by decide +kernel
theorem dX0_become_15 : decode cX0_become 15 = .ok (.aload_n 0, 1) := by decide +kernel
theorem dX0_become_16 : decode cX0_become 16 = .ok (.iload_n 2, 1) := by decide +kernel
theorem dX0_become_17 : decode cX0_become 17 = .ok (.iconst 5, 1) := by decide +kernel
theorem dX0_become_18 : decode cX0_become 18 = .ok (.idiv, 1) := by decide +kernel
theorem dX0_become_19 : decode cX0_become 19 = .ok (.iconst 5, 1) := by decide +kernel
theorem dX0_become_20 : decode cX0_become 20 = .ok (.irem, 1) := by decide +kernel
theorem dX0_become_21 : decode cX0_become 21 = .ok (.iconst 2, 1) := by decide +kernel
theorem dX0_become_22 : decode cX0_become 22 = .ok (.isub, 1) := by decide +kernel
theorem dX0_become_23 : decode cX0_become 23 = .ok (.putfield 18, 3) := by decide +kernel
theorem dX0_become_26 : decode cX0_become 26 = .ok (.aload_n 0, 1) := by decide +kernel
theorem dX0_become_27 : decode cX0_become 27 = .ok (.iload_n 2, 1) := by decide +kernel
theorem dX0_become_28 : decode cX0_become 28 = .ok (.iconst 5, 1) := by decide +kernel
theorem dX0_become_29 : decode cX0_become 29 = .ok (.irem, 1) := by decide +kernel
theorem dX0_become_30 : decode cX0_become 30 = .ok (.iconst 2, 1) := by decide +kernel
theorem dX0_become_31 : decode cX0_become 31 = .ok (.isub, 1) := by decide +kernel
theorem dX0_become_32 : decode cX0_become 32 = .ok (.putfield 21, 3) := by decide +kernel
theorem dX0_become_35 : decode cX0_become 35 = .ok (.aload_n 0, 1) := by decide +kernel
theorem dX0_become_36 : decode cX0_become 36 = .ok (.aload_n 0, 1) := by decide +kernel
theorem dX0_become_37 : decode cX0_become 37 = .ok (.getfield 15, 3) := by decide +kernel
theorem dX0_become_40 : decode cX0_become 40 = .ok (.aload_n 0, 1) := by decide +kernel
theorem dX0_become_41 : decode cX0_become 41 = .ok (.getfield 18, 3) := by decide +kernel
theorem dX0_become_44 : decode cX0_become 44 = .ok (.aload_n 0, 1) := by decide +kernel
theorem dX0_become_45 : decode cX0_become 45 = .ok (.getfield 21, 3) := by decide +kernel
theorem dX0_become_48 : decode cX0_become 48 = .ok (.invokestatic 24, 3) := by decide +kernel
theorem dX0_become_51 : decode cX0_become 51 = .ok (.putfield 28, 3) := by decide +kernel
theorem dX0_become_54 : decode cX0_become 54 = .ok (.return_, 1) := by decide +kernel
theorem dX0_becomeNone_0 : decode cX0_becomeNone 0 = .ok (.aload_n 0, 1) := by decide +kernel
theorem dX0_becomeNone_1 : decode cX0_becomeNone 1 = .ok (.iconst (-1), 1) := by decide +kernel
theorem dX0_becomeNone_2 : decode cX0_becomeNone 2 = .ok (.putfield 9, 3) := by decide +kernel
theorem dX0_becomeNone_5 : decode cX0_becomeNone 5 = .ok (.aload_n 0, 1) := by decide +kernel
theorem dX0_becomeNone_6 : decode cX0_becomeNone 6 = .ok (.iconst 0, 1) := by decide +kernel
theorem dX0_becomeNone_7 : decode cX0_becomeNone 7 = .ok (.putfield 15, 3) := by decide +kernel
theorem dX0_becomeNone_10 : decode cX0_becomeNone 10 = .ok (.aload_n 0, 1) := by decide +kernel
theorem dX0_becomeNone_11 : decode cX0_becomeNone 11 = .ok (.iconst 0, 1) := by decide +kernel
theorem dX0_becomeNone_12 : decode cX0_becomeNone 12 = .ok (.putfield 18, 3) := by decide +kernel
theorem dX0_becomeNone_15 : decode cX0_becomeNone 15 = .ok (.aload_n 0, 1) := by decide +kernel
theorem dX0_becomeNone_16 : decode cX0_becomeNone 16 = .ok (.iconst 0, 1) := by decide +kernel
theorem dX0_becomeNone_17 : decode cX0_becomeNone 17 = .ok (.putfield 21, 3) := by decide +kernel
theorem dX0_becomeNone_20 : decode cX0_becomeNone 20 = .ok (.aload_n 0, 1) := by decide +kernel
theorem dX0_becomeNone_21 : decode cX0_becomeNone 21 = .ok (.iconst (-1), 1) := by decide +kernel
theorem dX0_becomeNone_22 : decode cX0_becomeNone 22 = .ok (.putfield 28, 3) := by decide +kernel
theorem dX0_becomeNone_25 : decode cX0_becomeNone 25 = .ok (.return_, 1) := by decide +kernel

theorem d_Men_init_0 : decode b_Men_init 0 = .ok (.aload_n 0, 1) := by decide +kernel
theorem d_Men_init_1 : decode b_Men_init 1 = .ok (.invokespecial 1, 3) := by decide +kernel
theorem d_Men_init_4 : decode b_Men_init 4 = .ok (.aload_n 0, 1) := by decide +kernel
theorem d_Men_init_5 : decode b_Men_init 5 = .ok (.aload_n 1, 1) := by decide +kernel
theorem d_Men_init_6 : decode b_Men_init 6 = .ok (.putfield 7, 3) := by decide +kernel
theorem d_Men_init_9 : decode b_Men_init 9 = .ok (.aload_n 0, 1) := by decide +kernel
theorem d_Men_init_10 : decode b_Men_init 10 = .ok (.iload_n 2, 1) := by decide +kernel
theorem d_Men_init_11 : decode b_Men_init 11 = .ok (.putfield 13, 3) := by decide +kernel
theorem d_Men_init_14 : decode b_Men_init 14 = .ok (.aload_n 0, 1) := by decide +kernel
theorem d_Men_init_15 : decode b_Men_init 15 = .ok (.iload_n 3, 1) := by decide +kernel
theorem d_Men_init_16 : decode b_Men_init 16 = .ok (.putfield 17, 3) := by decide +kernel
theorem d_Men_init_19 : decode b_Men_init 19 = .ok (.aload_n 0, 1) := by decide +kernel
theorem d_Men_init_20 : decode b_Men_init 20 = .ok (.iload 4, 2) := by decide +kernel
theorem d_Men_init_22 : decode b_Men_init 22 = .ok (.putfield 20, 3) := by decide +kernel
theorem d_Men_init_25 : decode b_Men_init 25 = .ok (.iconst 0, 1) := by decide +kernel
theorem d_Men_init_26 : decode b_Men_init 26 = .ok (.iload_n 3, 1) := by decide +kernel
theorem d_Men_init_27 : decode b_Men_init 27 = .ok (.iload_n 2, 1) := by decide +kernel
theorem d_Men_init_28 : decode b_Men_init 28 = .ok (.isub, 1) := by decide +kernel
theorem d_Men_init_29 : decode b_Men_init 29 = .ok (.iconst 1, 1) := by decide +kernel
theorem d_Men_init_30 : decode b_Men_init 30 = .ok (.iadd, 1) := by decide +kernel
theorem d_Men_init_31 : decode b_Men_init 31 = .ok (.invokestatic 23, 3) := by decide +kernel
theorem d_Men_init_34 : decode b_Men_init 34 = .ok (.istore 5, 2) := by decide +kernel
theorem d_Men_init_36 : decode b_Men_init 36 = .ok (.aload_n 0, 1) := by decide +kernel
theorem d_Men_init_37 : decode b_Men_init 37 = .ok (.iload 5, 2) := by decide +kernel
theorem d_Men_init_39 : decode b_Men_init 39 = .ok (.newarray .int, 2) := by decide +kernel
theorem d_Men_init_41 : decode b_Men_init 41 = .ok (.putfield 29, 3) := by decide +kernel
theorem d_Men_init_44 : decode b_Men_init 44 = .ok (.aload_n 0, 1) := by decide +kernel
theorem d_Men_init_45 : decode b_Men_init 45 = .ok (.iload 5, 2) := by decide +kernel
theorem d_Men_init_47 : decode b_Men_init 47 = .ok (.newarray .int, 2) := by decide +kernel
theorem d_Men_init_49 : decode b_Men_init 49 = .ok (.putfield 32, 3) := by decide +kernel
theorem d_Men_init_52 : decode b_Men_init 52 = .ok (.return_, 1) := by decide +kernel

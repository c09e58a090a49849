theorem d_Row_init_0 : decode b_Row_init 0 = .ok (.aload_n 0, 1) := by decide +kernel
theorem d_Row_init_1 : decode b_Row_init 1 = .ok (.invokespecial 3, 3) := by decide +kernel
theorem d_Row_init_4 : decode b_Row_init 4 = .ok (.aload_n 0, 1) := by decide +kernel
theorem d_Row_init_5 : decode b_Row_init 5 = .ok (.aload_n 1, 1) := by decide +kernel
theorem d_Row_init_6 : decode b_Row_init 6 = .ok (.putfield 9, 3) := by decide +kernel
theorem d_Row_init_9 : decode b_Row_init 9 = .ok (.aload_n 0, 1) := by decide +kernel
theorem d_Row_init_10 : decode b_Row_init 10 = .ok (.iconst (-1), 1) := by decide +kernel
theorem d_Row_init_11 : decode b_Row_init 11 = .ok (.putfield 15, 3) := by decide +kernel
theorem d_Row_init_14 : decode b_Row_init 14 = .ok (.return_, 1) := by decide +kernel
theorem d_Row_lastYear_0 : decode b_Row_lastYear 0 = .ok (.aload_n 0, 1) := by decide +kernel
theorem d_Row_lastYear_1 : decode b_Row_lastYear 1 = .ok (.getfield 15, 3) := by decide +kernel
theorem d_Row_lastYear_4 : decode b_Row_lastYear 4 = .ok (.aload_n 0, 1) := by decide +kernel
theorem d_Row_lastYear_5 : decode b_Row_lastYear 5 = .ok (.getfield 9, 3) := by decide +kernel
theorem d_Row_lastYear_8 : decode b_Row_lastYear 8 = .ok (.arraylength, 1) := by decide +kernel
theorem d_Row_lastYear_9 : decode b_Row_lastYear 9 = .ok (.iadd, 1) := by decide +kernel
theorem d_Row_lastYear_10 : decode b_Row_lastYear 10 = .ok (.iconst 1, 1) := by decide +kernel
theorem d_Row_lastYear_11 : decode b_Row_lastYear 11 = .ok (.isub, 1) := by decide +kernel
theorem d_Row_lastYear_12 : decode b_Row_lastYear 12 = .ok (.ireturn, 1) := by decide +kernel
theorem d_Row_ringIn_0 : decode b_Row_ringIn 0 = .ok (.iload_n 1, 1) := by decide +kernel
theorem d_Row_ringIn_1 : decode b_Row_ringIn 1 = .ok (.iload_n 2, 1) := by decide +kernel
theorem d_Row_ringIn_2 : decode b_Row_ringIn 2 = .ok (.isub, 1) := by decide +kernel
theorem d_Row_ringIn_3 : decode b_Row_ringIn 3 = .ok (.istore_n 3, 1) := by decide +kernel
theorem d_Row_ringIn_4 : decode b_Row_ringIn 4 = .ok (.iload_n 3, 1) := by decide +kernel
theorem d_Row_ringIn_5 : decode b_Row_ringIn 5 = .ok (.ifCond .lt 21, 3) := by decide +kernel
theorem d_Row_ringIn_8 : decode b_Row_ringIn 8 = .ok (.iload_n 3, 1) := by decide +kernel
theorem d_Row_ringIn_9 : decode b_Row_ringIn 9 = .ok (.aload_n 0, 1) := by decide +kernel
theorem d_Row_ringIn_10 : decode b_Row_ringIn 10 = .ok (.getfield 9, 3) := by decide +kernel
theorem d_Row_ringIn_13 : decode b_Row_ringIn 13 = .ok (.arraylength, 1) := by decide +kernel
theorem d_Row_ringIn_14 : decode b_Row_ringIn 14 = .ok (.if_icmp .ge 12, 3) := by decide +kernel
theorem d_Row_ringIn_17 : decode b_Row_ringIn 17 = .ok (.aload_n 0, 1) := by decide +kernel
theorem d_Row_ringIn_18 : decode b_Row_ringIn 18 = .ok (.getfield 9, 3) := by decide +kernel
theorem d_Row_ringIn_21 : decode b_Row_ringIn 21 = .ok (.iload_n 3, 1) := by decide +kernel
theorem d_Row_ringIn_22 : decode b_Row_ringIn 22 = .ok (.iaload, 1) := by decide +kernel
theorem d_Row_ringIn_23 : decode b_Row_ringIn 23 = .ok (.goto 4, 3) := by decide +kernel
theorem d_Row_ringIn_26 : decode b_Row_ringIn 26 = .ok (.iconst (-1), 1) := by decide +kernel
theorem d_Row_ringIn_27 : decode b_Row_ringIn 27 = .ok (.ireturn, 1) := by decide +kernel

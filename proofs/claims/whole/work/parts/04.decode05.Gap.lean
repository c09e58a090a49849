theorem d_Gap_init_0 : decode b_Gap_init 0 = .ok (.aload_n 0, 1) := by decide +kernel
theorem d_Gap_init_1 : decode b_Gap_init 1 = .ok (.invokespecial 1, 3) := by decide +kernel
theorem d_Gap_init_4 : decode b_Gap_init 4 = .ok (.return_, 1) := by decide +kernel
theorem d_Gap_clear_0 : decode b_Gap_clear 0 = .ok (.aload_n 0, 1) := by decide +kernel
theorem d_Gap_clear_1 : decode b_Gap_clear 1 = .ok (.iconst 0, 1) := by decide +kernel
theorem d_Gap_clear_2 : decode b_Gap_clear 2 = .ok (.putfield 7, 3) := by decide +kernel
theorem d_Gap_clear_5 : decode b_Gap_clear 5 = .ok (.aload_n 0, 1) := by decide +kernel
theorem d_Gap_clear_6 : decode b_Gap_clear 6 = .ok (.iconst 0, 1) := by decide +kernel
theorem d_Gap_clear_7 : decode b_Gap_clear 7 = .ok (.putfield 13, 3) := by decide +kernel
theorem d_Gap_clear_10 : decode b_Gap_clear 10 = .ok (.return_, 1) := by decide +kernel
theorem d_Gap_add_0 : decode b_Gap_add 0 = .ok (.aload_n 0, 1) := by decide +kernel
theorem d_Gap_add_1 : decode b_Gap_add 1 = .ok (.dup, 1) := by decide +kernel
theorem d_Gap_add_2 : decode b_Gap_add 2 = .ok (.getfield 7, 3) := by decide +kernel
theorem d_Gap_add_5 : decode b_Gap_add 5 = .ok (.iload_n 1, 1) := by decide +kernel
theorem d_Gap_add_6 : decode b_Gap_add 6 = .ok (.iload_n 2, 1) := by decide +kernel
theorem d_Gap_add_7 : decode b_Gap_add 7 = .ok (.isub, 1) := by decide +kernel
theorem d_Gap_add_8 : decode b_Gap_add 8 = .ok (.invokestatic 16, 3) := by decide +kernel
theorem d_Gap_add_11 : decode b_Gap_add 11 = .ok (.iadd, 1) := by decide +kernel
theorem d_Gap_add_12 : decode b_Gap_add 12 = .ok (.putfield 7, 3) := by decide +kernel
theorem d_Gap_add_15 : decode b_Gap_add 15 = .ok (.aload_n 0, 1) := by decide +kernel
theorem d_Gap_add_16 : decode b_Gap_add 16 = .ok (.dup, 1) := by decide +kernel
theorem d_Gap_add_17 : decode b_Gap_add 17 = .ok (.getfield 13, 3) := by decide +kernel
theorem d_Gap_add_20 : decode b_Gap_add 20 = .ok (.iconst 1, 1) := by decide +kernel
theorem d_Gap_add_21 : decode b_Gap_add 21 = .ok (.iadd, 1) := by decide +kernel
theorem d_Gap_add_22 : decode b_Gap_add 22 = .ok (.putfield 13, 3) := by decide +kernel
theorem d_Gap_add_25 : decode b_Gap_add 25 = .ok (.return_, 1) := by decide +kernel
theorem d_Gap_sumOrYears_0 : decode b_Gap_sumOrYears 0 = .ok (.iload_n 1, 1) := by decide +kernel
theorem d_Gap_sumOrYears_1 : decode b_Gap_sumOrYears 1 = .ok (.ifCond .ne 10, 3) := by decide +kernel
theorem d_Gap_sumOrYears_4 : decode b_Gap_sumOrYears 4 = .ok (.aload_n 0, 1) := by decide +kernel
theorem d_Gap_sumOrYears_5 : decode b_Gap_sumOrYears 5 = .ok (.getfield 7, 3) := by decide +kernel
theorem d_Gap_sumOrYears_8 : decode b_Gap_sumOrYears 8 = .ok (.goto 7, 3) := by decide +kernel
theorem d_Gap_sumOrYears_11 : decode b_Gap_sumOrYears 11 = .ok (.aload_n 0, 1) := by decide +kernel
theorem d_Gap_sumOrYears_12 : decode b_Gap_sumOrYears 12 = .ok (.getfield 13, 3) := by decide +kernel
theorem d_Gap_sumOrYears_15 : decode b_Gap_sumOrYears 15 = .ok (.ireturn, 1) := by decide +kernel
theorem d_Gap_lessThan_0 : decode b_Gap_lessThan 0 = .ok (.aload_n 0, 1) := by decide +kernel
theorem d_Gap_lessThan_1 : decode b_Gap_lessThan 1 = .ok (.getfield 7, 3) := by decide +kernel
theorem d_Gap_lessThan_4 : decode b_Gap_lessThan 4 = .ok (.aload_n 1, 1) := by decide +kernel
theorem d_Gap_lessThan_5 : decode b_Gap_lessThan 5 = .ok (.getfield 13, 3) := by decide +kernel
theorem d_Gap_lessThan_8 : decode b_Gap_lessThan 8 = .ok (.imul, 1) := by decide +kernel
theorem d_Gap_lessThan_9 : decode b_Gap_lessThan 9 = .ok (.istore_n 2, 1) := by decide +kernel
theorem d_Gap_lessThan_10 : decode b_Gap_lessThan 10 = .ok (.aload_n 1, 1) := by decide +kernel
theorem d_Gap_lessThan_11 : decode b_Gap_lessThan 11 = .ok (.getfield 7, 3) := by decide +kernel
theorem d_Gap_lessThan_14 : decode b_Gap_lessThan 14 = .ok (.aload_n 0, 1) := by decide +kernel
theorem d_Gap_lessThan_15 : decode b_Gap_lessThan 15 = .ok (.getfield 13, 3) := by decide +kernel
theorem d_Gap_lessThan_18 : decode b_Gap_lessThan 18 = .ok (.imul, 1) := by decide +kernel
theorem d_Gap_lessThan_19 : decode b_Gap_lessThan 19 = .ok (.istore_n 3, 1) := by decide +kernel
theorem d_Gap_lessThan_20 : decode b_Gap_lessThan 20 = .ok (.iload_n 2, 1) := by decide +kernel
theorem d_Gap_lessThan_21 : decode b_Gap_lessThan 21 = .ok (.iload_n 3, 1) := by decide +kernel
theorem d_Gap_lessThan_22 : decode b_Gap_lessThan 22 = .ok (.if_icmp .lt 19, 3) := by decide +kernel
theorem d_Gap_lessThan_25 : decode b_Gap_lessThan 25 = .ok (.iload_n 2, 1) := by decide +kernel
theorem d_Gap_lessThan_26 : decode b_Gap_lessThan 26 = .ok (.iload_n 3, 1) := by decide +kernel
theorem d_Gap_lessThan_27 : decode b_Gap_lessThan 27 = .ok (.if_icmp .ne 18, 3) := by decide +kernel
theorem d_Gap_lessThan_30 : decode b_Gap_lessThan 30 = .ok (.aload_n 0, 1) := by decide +kernel
theorem d_Gap_lessThan_31 : decode b_Gap_lessThan 31 = .ok (.getfield 13, 3) := by decide +kernel
theorem d_Gap_lessThan_34 : decode b_Gap_lessThan 34 = .ok (.aload_n 1, 1) := by decide +kernel
theorem d_Gap_lessThan_35 : decode b_Gap_lessThan 35 = .ok (.getfield 13, 3) := by decide +kernel
theorem d_Gap_lessThan_38 : decode b_Gap_lessThan 38 = .ok (.if_icmp .le 7, 3) := by decide +kernel
theorem d_Gap_lessThan_41 : decode b_Gap_lessThan 41 = .ok (.iconst 1, 1) := by decide +kernel
theorem d_Gap_lessThan_42 : decode b_Gap_lessThan 42 = .ok (.goto 4, 3) := by decide +kernel
theorem d_Gap_lessThan_45 : decode b_Gap_lessThan 45 = .ok (.iconst 0, 1) := by decide +kernel
theorem d_Gap_lessThan_46 : decode b_Gap_lessThan 46 = .ok (.ireturn, 1) := by decide +kernel
theorem d_Gap_become_0 : decode b_Gap_become 0 = .ok (.aload_n 0, 1) := by decide +kernel
theorem d_Gap_become_1 : decode b_Gap_become 1 = .ok (.aload_n 1, 1) := by decide +kernel
theorem d_Gap_become_2 : decode b_Gap_become 2 = .ok (.getfield 7, 3) := by decide +kernel
theorem d_Gap_become_5 : decode b_Gap_become 5 = .ok (.putfield 7, 3) := by decide +kernel
theorem d_Gap_become_8 : decode b_Gap_become 8 = .ok (.aload_n 0, 1) := by decide +kernel
theorem d_Gap_become_9 : decode b_Gap_become 9 = .ok (.aload_n 1, 1) := by decide +kernel
theorem d_Gap_become_10 : decode b_Gap_become 10 = .ok (.getfield 13, 3) := by decide +kernel
theorem d_Gap_become_13 : decode b_Gap_become 13 = .ok (.putfield 13, 3) := by decide +kernel
theorem d_Gap_become_16 : decode b_Gap_become 16 = .ok (.return_, 1) := by decide +kernel

theorem d_Rob_init_0 : decode b_Rob_init 0 = .ok (.aload_n 0, 1) := by decide +kernel
theorem d_Rob_init_1 : decode b_Rob_init 1 = .ok (.invokespecial 3, 3) := by decide +kernel
theorem d_Rob_init_4 : decode b_Rob_init 4 = .ok (.return_, 1) := by decide +kernel
theorem d_Rob_clear_0 : decode b_Rob_clear 0 = .ok (.aload_n 0, 1) := by decide +kernel
theorem d_Rob_clear_1 : decode b_Rob_clear 1 = .ok (.iconst 0, 1) := by decide +kernel
theorem d_Rob_clear_2 : decode b_Rob_clear 2 = .ok (.putfield 9, 3) := by decide +kernel
theorem d_Rob_clear_5 : decode b_Rob_clear 5 = .ok (.aload_n 0, 1) := by decide +kernel
theorem d_Rob_clear_6 : decode b_Rob_clear 6 = .ok (.iconst 0, 1) := by decide +kernel
theorem d_Rob_clear_7 : decode b_Rob_clear 7 = .ok (.putfield 15, 3) := by decide +kernel
theorem d_Rob_clear_10 : decode b_Rob_clear 10 = .ok (.aload_n 0, 1) := by decide +kernel
theorem d_Rob_clear_11 : decode b_Rob_clear 11 = .ok (.iconst 0, 1) := by decide +kernel
theorem d_Rob_clear_12 : decode b_Rob_clear 12 = .ok (.putfield 18, 3) := by decide +kernel
theorem d_Rob_clear_15 : decode b_Rob_clear 15 = .ok (.aload_n 0, 1) := by decide +kernel
theorem d_Rob_clear_16 : decode b_Rob_clear 16 = .ok (.iconst 0, 1) := by decide +kernel
theorem d_Rob_clear_17 : decode b_Rob_clear 17 = .ok (.putfield 21, 3) := by decide +kernel
theorem d_Rob_clear_20 : decode b_Rob_clear 20 = .ok (.return_, 1) := by decide +kernel
theorem d_Rob_take_0 : decode b_Rob_take 0 = .ok (.aload_n 0, 1) := by decide +kernel
theorem d_Rob_take_1 : decode b_Rob_take 1 = .ok (.aload_n 0, 1) := by decide +kernel
theorem d_Rob_take_2 : decode b_Rob_take 2 = .ok (.getfield 9, 3) := by decide +kernel
theorem d_Rob_take_5 : decode b_Rob_take 5 = .ok (.ifCond .ne 7, 3) := by decide +kernel
theorem d_Rob_take_8 : decode b_Rob_take 8 = .ok (.iload_n 1, 1) := by decide +kernel
theorem d_Rob_take_9 : decode b_Rob_take 9 = .ok (.goto 11, 3) := by decide +kernel
theorem d_Rob_take_12 : decode b_Rob_take 12 = .ok (.aload_n 0, 1) := by decide +kernel
theorem d_Rob_take_13 : decode b_Rob_take 13 = .ok (.getfield 18, 3) := by decide +kernel
theorem d_Rob_take_16 : decode b_Rob_take 16 = .ok (.iload_n 1, 1) := by decide +kernel
theorem d_Rob_take_17 : decode b_Rob_take 17 = .ok (.invokestatic 24, 3) := by decide +kernel
theorem d_Rob_take_20 : decode b_Rob_take 20 = .ok (.putfield 18, 3) := by decide +kernel
theorem d_Rob_take_23 : decode b_Rob_take 23 = .ok (.aload_n 0, 1) := by decide +kernel
theorem d_Rob_take_24 : decode b_Rob_take 24 = .ok (.aload_n 0, 1) := by decide +kernel
theorem d_Rob_take_25 : decode b_Rob_take 25 = .ok (.getfield 9, 3) := by decide +kernel
theorem d_Rob_take_28 : decode b_Rob_take 28 = .ok (.ifCond .ne 7, 3) := by decide +kernel
theorem d_Rob_take_31 : decode b_Rob_take 31 = .ok (.iload_n 1, 1) := by decide +kernel
theorem d_Rob_take_32 : decode b_Rob_take 32 = .ok (.goto 11, 3) := by decide +kernel
theorem d_Rob_take_35 : decode b_Rob_take 35 = .ok (.aload_n 0, 1) := by decide +kernel
theorem d_Rob_take_36 : decode b_Rob_take 36 = .ok (.getfield 21, 3) := by decide +kernel
theorem d_Rob_take_39 : decode b_Rob_take 39 = .ok (.iload_n 1, 1) := by decide +kernel
theorem d_Rob_take_40 : decode b_Rob_take 40 = .ok (.invokestatic 30, 3) := by decide +kernel
theorem d_Rob_take_43 : decode b_Rob_take 43 = .ok (.putfield 21, 3) := by decide +kernel
theorem d_Rob_take_46 : decode b_Rob_take 46 = .ok (.aload_n 0, 1) := by decide +kernel
theorem d_Rob_take_47 : decode b_Rob_take 47 = .ok (.dup, 1) := by decide +kernel
theorem d_Rob_take_48 : decode b_Rob_take 48 = .ok (.getfield 15, 3) := by decide +kernel
theorem d_Rob_take_51 : decode b_Rob_take 51 = .ok (.iload_n 1, 1) := by decide +kernel
theorem d_Rob_take_52 : decode b_Rob_take 52 = .ok (.iadd, 1) := by decide +kernel
theorem d_Rob_take_53 : decode b_Rob_take 53 = .ok (.putfield 15, 3) := by decide +kernel
theorem d_Rob_take_56 : decode b_Rob_take 56 = .ok (.aload_n 0, 1) := by decide +kernel
theorem d_Rob_take_57 : decode b_Rob_take 57 = .ok (.dup, 1) := by decide +kernel
theorem d_Rob_take_58 : decode b_Rob_take 58 = .ok (.getfield 9, 3) := by decide +kernel
theorem d_Rob_take_61 : decode b_Rob_take 61 = .ok (.iconst 1, 1) := by decide +kernel
theorem d_Rob_take_62 : decode b_Rob_take 62 = .ok (.iadd, 1) := by decide +kernel
theorem d_Rob_take_63 : decode b_Rob_take 63 = .ok (.putfield 9, 3) := by decide +kernel
theorem d_Rob_take_66 : decode b_Rob_take 66 = .ok (.return_, 1) := by decide +kernel
theorem d_Rob_answer_0 : decode b_Rob_answer 0 = .ok (.aload_n 0, 1) := by decide +kernel
theorem d_Rob_answer_1 : decode b_Rob_answer 1 = .ok (.getfield 9, 3) := by decide +kernel
theorem d_Rob_answer_4 : decode b_Rob_answer 4 = .ok (.ifCond .gt 5, 3) := by decide +kernel
theorem d_Rob_answer_7 : decode b_Rob_answer 7 = .ok (.iconst (-1), 1) := by decide +kernel
theorem d_Rob_answer_8 : decode b_Rob_answer 8 = .ok (.ireturn, 1) := by decide +kernel
theorem d_Rob_answer_9 : decode b_Rob_answer 9 = .ok (.aload_n 0, 1) := by decide +kernel
theorem d_Rob_answer_10 : decode b_Rob_answer 10 = .ok (.getfield 9, 3) := by decide +kernel
theorem d_Rob_answer_13 : decode b_Rob_answer 13 = .ok (.iconst 2, 1) := by decide +kernel
theorem d_Rob_answer_14 : decode b_Rob_answer 14 = .ok (.if_icmp .gt 13, 3) := by decide +kernel
theorem d_Rob_answer_17 : decode b_Rob_answer 17 = .ok (.aload_n 0, 1) := by decide +kernel
theorem d_Rob_answer_18 : decode b_Rob_answer 18 = .ok (.getfield 15, 3) := by decide +kernel
theorem d_Rob_answer_21 : decode b_Rob_answer 21 = .ok (.aload_n 0, 1) := by decide +kernel
theorem d_Rob_answer_22 : decode b_Rob_answer 22 = .ok (.getfield 9, 3) := by decide +kernel
theorem d_Rob_answer_25 : decode b_Rob_answer 25 = .ok (.idiv, 1) := by decide +kernel
theorem d_Rob_answer_26 : decode b_Rob_answer 26 = .ok (.ireturn, 1) := by decide +kernel
theorem d_Rob_answer_27 : decode b_Rob_answer 27 = .ok (.aload_n 0, 1) := by decide +kernel
theorem d_Rob_answer_28 : decode b_Rob_answer 28 = .ok (.getfield 15, 3) := by decide +kernel
theorem d_Rob_answer_31 : decode b_Rob_answer 31 = .ok (.aload_n 0, 1) := by decide +kernel
theorem d_Rob_answer_32 : decode b_Rob_answer 32 = .ok (.getfield 18, 3) := by decide +kernel
theorem d_Rob_answer_35 : decode b_Rob_answer 35 = .ok (.isub, 1) := by decide +kernel
theorem d_Rob_answer_36 : decode b_Rob_answer 36 = .ok (.aload_n 0, 1) := by decide +kernel
theorem d_Rob_answer_37 : decode b_Rob_answer 37 = .ok (.getfield 21, 3) := by decide +kernel
theorem d_Rob_answer_40 : decode b_Rob_answer 40 = .ok (.isub, 1) := by decide +kernel
theorem d_Rob_answer_41 : decode b_Rob_answer 41 = .ok (.aload_n 0, 1) := by decide +kernel
theorem d_Rob_answer_42 : decode b_Rob_answer 42 = .ok (.getfield 9, 3) := by decide +kernel
theorem d_Rob_answer_45 : decode b_Rob_answer 45 = .ok (.iconst 2, 1) := by decide +kernel
theorem d_Rob_answer_46 : decode b_Rob_answer 46 = .ok (.isub, 1) := by decide +kernel
theorem d_Rob_answer_47 : decode b_Rob_answer 47 = .ok (.idiv, 1) := by decide +kernel
theorem d_Rob_answer_48 : decode b_Rob_answer 48 = .ok (.ireturn, 1) := by decide +kernel

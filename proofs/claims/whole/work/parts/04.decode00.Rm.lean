theorem d_Rm_init_0 : decode b_Rm_init 0 = .ok (.aload_n 0, 1) := by decide +kernel
theorem d_Rm_init_1 : decode b_Rm_init 1 = .ok (.invokespecial 3, 3) := by decide +kernel
theorem d_Rm_init_4 : decode b_Rm_init 4 = .ok (.aload_n 0, 1) := by decide +kernel
theorem d_Rm_init_5 : decode b_Rm_init 5 = .ok (.bipush 30, 2) := by decide +kernel
theorem d_Rm_init_7 : decode b_Rm_init 7 = .ok (.newarray .int, 2) := by decide +kernel
theorem d_Rm_init_9 : decode b_Rm_init 9 = .ok (.putfield 9, 3) := by decide +kernel
theorem d_Rm_init_12 : decode b_Rm_init 12 = .ok (.aload_n 0, 1) := by decide +kernel
theorem d_Rm_init_13 : decode b_Rm_init 13 = .ok (.iconst 0, 1) := by decide +kernel
theorem d_Rm_init_14 : decode b_Rm_init 14 = .ok (.putfield 13, 3) := by decide +kernel
theorem d_Rm_init_17 : decode b_Rm_init 17 = .ok (.aload_n 0, 1) := by decide +kernel
theorem d_Rm_init_18 : decode b_Rm_init 18 = .ok (.bipush 10, 2) := by decide +kernel
theorem d_Rm_init_20 : decode b_Rm_init 20 = .ok (.anewarray 17, 3) := by decide +kernel
theorem d_Rm_init_23 : decode b_Rm_init 23 = .ok (.putfield 19, 3) := by decide +kernel
theorem d_Rm_init_26 : decode b_Rm_init 26 = .ok (.aload_n 0, 1) := by decide +kernel
theorem d_Rm_init_27 : decode b_Rm_init 27 = .ok (.iconst 0, 1) := by decide +kernel
theorem d_Rm_init_28 : decode b_Rm_init 28 = .ok (.putfield 23, 3) := by decide +kernel
theorem d_Rm_init_31 : decode b_Rm_init 31 = .ok (.aload_n 0, 1) := by decide +kernel
theorem d_Rm_init_32 : decode b_Rm_init 32 = .ok (.bipush 8, 2) := by decide +kernel
theorem d_Rm_init_34 : decode b_Rm_init 34 = .ok (.anewarray 26, 3) := by decide +kernel
theorem d_Rm_init_37 : decode b_Rm_init 37 = .ok (.putfield 28, 3) := by decide +kernel
theorem d_Rm_init_40 : decode b_Rm_init 40 = .ok (.aload_n 0, 1) := by decide +kernel
theorem d_Rm_init_41 : decode b_Rm_init 41 = .ok (.iconst 0, 1) := by decide +kernel
theorem d_Rm_init_42 : decode b_Rm_init 42 = .ok (.putfield 32, 3) := by decide +kernel
theorem d_Rm_init_45 : decode b_Rm_init 45 = .ok (.aload_n 0, 1) := by decide +kernel
theorem d_Rm_init_46 : decode b_Rm_init 46 = .ok (.bipush 61, 2) := by decide +kernel
theorem d_Rm_init_48 : decode b_Rm_init 48 = .ok (.newarray .int, 2) := by decide +kernel
theorem d_Rm_init_50 : decode b_Rm_init 50 = .ok (.putfield 35, 3) := by decide +kernel
theorem d_Rm_init_53 : decode b_Rm_init 53 = .ok (.aload_n 0, 1) := by decide +kernel
theorem d_Rm_init_54 : decode b_Rm_init 54 = .ok (.new 38, 3) := by decide +kernel
theorem d_Rm_init_57 : decode b_Rm_init 57 = .ok (.dup, 1) := by decide +kernel
theorem d_Rm_init_58 : decode b_Rm_init 58 = .ok (.invokespecial 40, 3) := by decide +kernel
theorem d_Rm_init_61 : decode b_Rm_init 61 = .ok (.putfield 41, 3) := by decide +kernel
theorem d_Rm_init_64 : decode b_Rm_init 64 = .ok (.aload_n 0, 1) := by decide +kernel
theorem d_Rm_init_65 : decode b_Rm_init 65 = .ok (.new 45, 3) := by decide +kernel
theorem d_Rm_init_68 : decode b_Rm_init 68 = .ok (.dup, 1) := by decide +kernel
theorem d_Rm_init_69 : decode b_Rm_init 69 = .ok (.invokespecial 47, 3) := by decide +kernel
theorem d_Rm_init_72 : decode b_Rm_init 72 = .ok (.putfield 48, 3) := by decide +kernel
theorem d_Rm_init_75 : decode b_Rm_init 75 = .ok (.aload_n 0, 1) := by decide +kernel
theorem d_Rm_init_76 : decode b_Rm_init 76 = .ok (.new 45, 3) := by decide +kernel
theorem d_Rm_init_79 : decode b_Rm_init 79 = .ok (.dup, 1) := by decide +kernel
theorem d_Rm_init_80 : decode b_Rm_init 80 = .ok (.invokespecial 47, 3) := by decide +kernel
theorem d_Rm_init_83 : decode b_Rm_init 83 = .ok (.putfield 52, 3) := by decide +kernel
theorem d_Rm_init_86 : decode b_Rm_init 86 = .ok (.aload_n 0, 1) := by decide +kernel
theorem d_Rm_init_87 : decode b_Rm_init 87 = .ok (.bipush 8, 2) := by decide +kernel
theorem d_Rm_init_89 : decode b_Rm_init 89 = .ok (.anewarray 45, 3) := by decide +kernel
theorem d_Rm_init_92 : decode b_Rm_init 92 = .ok (.putfield 55, 3) := by decide +kernel
theorem d_Rm_init_95 : decode b_Rm_init 95 = .ok (.iconst 0, 1) := by decide +kernel
theorem d_Rm_init_96 : decode b_Rm_init 96 = .ok (.istore_n 1, 1) := by decide +kernel
theorem d_Rm_init_97 : decode b_Rm_init 97 = .ok (.iload_n 1, 1) := by decide +kernel
theorem d_Rm_init_98 : decode b_Rm_init 98 = .ok (.aload_n 0, 1) := by decide +kernel
theorem d_Rm_init_99 : decode b_Rm_init 99 = .ok (.getfield 55, 3) := by decide +kernel
theorem d_Rm_init_102 : decode b_Rm_init 102 = .ok (.arraylength, 1) := by decide +kernel
theorem d_Rm_init_103 : decode b_Rm_init 103 = .ok (.if_icmp .ge 22, 3) := by decide +kernel
theorem d_Rm_init_106 : decode b_Rm_init 106 = .ok (.aload_n 0, 1) := by decide +kernel
theorem d_Rm_init_107 : decode b_Rm_init 107 = .ok (.getfield 55, 3) := by decide +kernel
theorem d_Rm_init_110 : decode b_Rm_init 110 = .ok (.iload_n 1, 1) := by decide +kernel
theorem d_Rm_init_111 : decode b_Rm_init 111 = .ok (.new 45, 3) := by decide +kernel
theorem d_Rm_init_114 : decode b_Rm_init 114 = .ok (.dup, 1) := by decide +kernel
theorem d_Rm_init_115 : decode b_Rm_init 115 = .ok (.invokespecial 47, 3) := by decide +kernel
theorem d_Rm_init_118 : decode b_Rm_init 118 = .ok (.aastore, 1) := by decide +kernel
theorem d_Rm_init_119 : decode b_Rm_init 119 = .ok (.iinc 1 1, 3) := by decide +kernel
theorem d_Rm_init_122 : decode b_Rm_init 122 = .ok (.goto (-25), 3) := by decide +kernel
theorem d_Rm_init_125 : decode b_Rm_init 125 = .ok (.aload_n 0, 1) := by decide +kernel
theorem d_Rm_init_126 : decode b_Rm_init 126 = .ok (.bipush 8, 2) := by decide +kernel
theorem d_Rm_init_128 : decode b_Rm_init 128 = .ok (.newarray .int, 2) := by decide +kernel
theorem d_Rm_init_130 : decode b_Rm_init 130 = .ok (.putfield 59, 3) := by decide +kernel
theorem d_Rm_init_133 : decode b_Rm_init 133 = .ok (.return_, 1) := by decide +kernel
theorem d_Rm_ring_0 : decode b_Rm_ring 0 = .ok (.aload_n 0, 1) := by decide +kernel
theorem d_Rm_ring_1 : decode b_Rm_ring 1 = .ok (.getfield 13, 3) := by decide +kernel
theorem d_Rm_ring_4 : decode b_Rm_ring 4 = .ok (.bipush 30, 2) := by decide +kernel
theorem d_Rm_ring_6 : decode b_Rm_ring 6 = .ok (.if_icmp .lt 13, 3) := by decide +kernel
theorem d_Rm_ring_9 : decode b_Rm_ring 9 = .ok (.new 62, 3) := by decide +kernel
theorem d_Rm_ring_12 : decode b_Rm_ring 12 = .ok (.dup, 1) := by decide +kernel
theorem d_Rm_ring_13 : decode b_Rm_ring 13 = .ok (.ldc 64, 2) := by decide +kernel
theorem d_Rm_ring_15 : decode b_Rm_ring 15 = .ok (.invokespecial 66, 3) := by decide +kernel
theorem d_Rm_ring_18 : decode b_Rm_ring 18 = .ok (.athrow, 1) := by decide +kernel
theorem d_Rm_ring_19 : decode b_Rm_ring 19 = .ok (.iload_n 1, 1) := by decide +kernel
theorem d_Rm_ring_20 : decode b_Rm_ring 20 = .ok (.iconst 1, 1) := by decide +kernel
theorem d_Rm_ring_21 : decode b_Rm_ring 21 = .ok (.if_icmp .lt 10, 3) := by decide +kernel
theorem d_Rm_ring_24 : decode b_Rm_ring 24 = .ok (.iload_n 1, 1) := by decide +kernel
theorem d_Rm_ring_25 : decode b_Rm_ring 25 = .ok (.sipush 900, 3) := by decide +kernel
theorem d_Rm_ring_28 : decode b_Rm_ring 28 = .ok (.if_icmp .le 13, 3) := by decide +kernel
theorem d_Rm_ring_31 : decode b_Rm_ring 31 = .ok (.new 69, 3) := by decide +kernel
theorem d_Rm_ring_34 : decode b_Rm_ring 34 = .ok (.dup, 1) := by decide +kernel
theorem d_Rm_ring_35 : decode b_Rm_ring 35 = .ok (.ldc 71, 2) := by decide +kernel
theorem d_Rm_ring_37 : decode b_Rm_ring 37 = .ok (.invokespecial 73, 3) := by decide +kernel
theorem d_Rm_ring_40 : decode b_Rm_ring 40 = .ok (.athrow, 1) := by decide +kernel
theorem d_Rm_ring_41 : decode b_Rm_ring 41 = .ok (.aload_n 0, 1) := by decide +kernel
theorem d_Rm_ring_42 : decode b_Rm_ring 42 = .ok (.getfield 9, 3) := by decide +kernel
theorem d_Rm_ring_45 : decode b_Rm_ring 45 = .ok (.aload_n 0, 1) := by decide +kernel
theorem d_Rm_ring_46 : decode b_Rm_ring 46 = .ok (.getfield 13, 3) := by decide +kernel
theorem d_Rm_ring_49 : decode b_Rm_ring 49 = .ok (.iload_n 1, 1) := by decide +kernel
theorem d_Rm_ring_50 : decode b_Rm_ring 50 = .ok (.iastore, 1) := by decide +kernel
theorem d_Rm_ring_51 : decode b_Rm_ring 51 = .ok (.aload_n 0, 1) := by decide +kernel
theorem d_Rm_ring_52 : decode b_Rm_ring 52 = .ok (.dup, 1) := by decide +kernel
theorem d_Rm_ring_53 : decode b_Rm_ring 53 = .ok (.getfield 13, 3) := by decide +kernel
theorem d_Rm_ring_56 : decode b_Rm_ring 56 = .ok (.iconst 1, 1) := by decide +kernel
theorem d_Rm_ring_57 : decode b_Rm_ring 57 = .ok (.iadd, 1) := by decide +kernel
theorem d_Rm_ring_58 : decode b_Rm_ring 58 = .ok (.putfield 13, 3) := by decide +kernel
theorem d_Rm_ring_61 : decode b_Rm_ring 61 = .ok (.aload_n 0, 1) := by decide +kernel
theorem d_Rm_ring_62 : decode b_Rm_ring 62 = .ok (.getfield 13, 3) := by decide +kernel
theorem d_Rm_ring_65 : decode b_Rm_ring 65 = .ok (.ireturn, 1) := by decide +kernel
theorem d_Rm_series_0 : decode b_Rm_series 0 = .ok (.aload_n 0, 1) := by decide +kernel
theorem d_Rm_series_1 : decode b_Rm_series 1 = .ok (.getfield 23, 3) := by decide +kernel
theorem d_Rm_series_4 : decode b_Rm_series 4 = .ok (.bipush 10, 2) := by decide +kernel
theorem d_Rm_series_6 : decode b_Rm_series 6 = .ok (.if_icmp .lt 13, 3) := by decide +kernel
theorem d_Rm_series_9 : decode b_Rm_series 9 = .ok (.new 62, 3) := by decide +kernel
theorem d_Rm_series_12 : decode b_Rm_series 12 = .ok (.dup, 1) := by decide +kernel
theorem d_Rm_series_13 : decode b_Rm_series 13 = .ok (.ldc 74, 2) := by decide +kernel
theorem d_Rm_series_15 : decode b_Rm_series 15 = .ok (.invokespecial 66, 3) := by decide +kernel
theorem d_Rm_series_18 : decode b_Rm_series 18 = .ok (.athrow, 1) := by decide +kernel
theorem d_Rm_series_19 : decode b_Rm_series 19 = .ok (.aload_n 0, 1) := by decide +kernel
theorem d_Rm_series_20 : decode b_Rm_series 20 = .ok (.getfield 13, 3) := by decide +kernel
theorem d_Rm_series_23 : decode b_Rm_series 23 = .ok (.iconst 3, 1) := by decide +kernel
theorem d_Rm_series_24 : decode b_Rm_series 24 = .ok (.if_icmp .ge 5, 3) := by decide +kernel
theorem d_Rm_series_27 : decode b_Rm_series 27 = .ok (.iconst (-1), 1) := by decide +kernel
theorem d_Rm_series_28 : decode b_Rm_series 28 = .ok (.ireturn, 1) := by decide +kernel
theorem d_Rm_series_29 : decode b_Rm_series 29 = .ok (.aload_n 0, 1) := by decide +kernel
theorem d_Rm_series_30 : decode b_Rm_series 30 = .ok (.getfield 19, 3) := by decide +kernel
theorem d_Rm_series_33 : decode b_Rm_series 33 = .ok (.aload_n 0, 1) := by decide +kernel
theorem d_Rm_series_34 : decode b_Rm_series 34 = .ok (.getfield 23, 3) := by decide +kernel
theorem d_Rm_series_37 : decode b_Rm_series 37 = .ok (.new 17, 3) := by decide +kernel
theorem d_Rm_series_40 : decode b_Rm_series 40 = .ok (.dup, 1) := by decide +kernel
theorem d_Rm_series_41 : decode b_Rm_series 41 = .ok (.aload_n 0, 1) := by decide +kernel
theorem d_Rm_series_42 : decode b_Rm_series 42 = .ok (.invokevirtual 76, 3) := by decide +kernel
theorem d_Rm_series_45 : decode b_Rm_series 45 = .ok (.invokespecial 80, 3) := by decide +kernel
theorem d_Rm_series_48 : decode b_Rm_series 48 = .ok (.aastore, 1) := by decide +kernel
theorem d_Rm_series_49 : decode b_Rm_series 49 = .ok (.aload_n 0, 1) := by decide +kernel
theorem d_Rm_series_50 : decode b_Rm_series 50 = .ok (.dup, 1) := by decide +kernel
theorem d_Rm_series_51 : decode b_Rm_series 51 = .ok (.getfield 23, 3) := by decide +kernel
theorem d_Rm_series_54 : decode b_Rm_series 54 = .ok (.iconst 1, 1) := by decide +kernel
theorem d_Rm_series_55 : decode b_Rm_series 55 = .ok (.iadd, 1) := by decide +kernel
theorem d_Rm_series_56 : decode b_Rm_series 56 = .ok (.putfield 23, 3) := by decide +kernel
theorem d_Rm_series_59 : decode b_Rm_series 59 = .ok (.aload_n 0, 1) := by decide +kernel
theorem d_Rm_series_60 : decode b_Rm_series 60 = .ok (.iconst 0, 1) := by decide +kernel
theorem d_Rm_series_61 : decode b_Rm_series 61 = .ok (.putfield 13, 3) := by decide +kernel
theorem d_Rm_series_64 : decode b_Rm_series 64 = .ok (.aload_n 0, 1) := by decide +kernel
theorem d_Rm_series_65 : decode b_Rm_series 65 = .ok (.getfield 23, 3) := by decide +kernel
theorem d_Rm_series_68 : decode b_Rm_series 68 = .ok (.iconst 1, 1) := by decide +kernel
theorem d_Rm_series_69 : decode b_Rm_series 69 = .ok (.isub, 1) := by decide +kernel
theorem d_Rm_series_70 : decode b_Rm_series 70 = .ok (.ireturn, 1) := by decide +kernel
theorem d_Rm_evenedPad_0 : decode b_Rm_evenedPad 0 = .ok (.iconst 0, 1) := by decide +kernel
theorem d_Rm_evenedPad_1 : decode b_Rm_evenedPad 1 = .ok (.istore_n 1, 1) := by decide +kernel
theorem d_Rm_evenedPad_2 : decode b_Rm_evenedPad 2 = .ok (.iconst 0, 1) := by decide +kernel
theorem d_Rm_evenedPad_3 : decode b_Rm_evenedPad 3 = .ok (.istore_n 2, 1) := by decide +kernel
theorem d_Rm_evenedPad_4 : decode b_Rm_evenedPad 4 = .ok (.iload_n 2, 1) := by decide +kernel
theorem d_Rm_evenedPad_5 : decode b_Rm_evenedPad 5 = .ok (.aload_n 0, 1) := by decide +kernel
theorem d_Rm_evenedPad_6 : decode b_Rm_evenedPad 6 = .ok (.getfield 13, 3) := by decide +kernel
theorem d_Rm_evenedPad_9 : decode b_Rm_evenedPad 9 = .ok (.if_icmp .ge 18, 3) := by decide +kernel
theorem d_Rm_evenedPad_12 : decode b_Rm_evenedPad 12 = .ok (.iload_n 1, 1) := by decide +kernel
theorem d_Rm_evenedPad_13 : decode b_Rm_evenedPad 13 = .ok (.aload_n 0, 1) := by decide +kernel
theorem d_Rm_evenedPad_14 : decode b_Rm_evenedPad 14 = .ok (.getfield 9, 3) := by decide +kernel
theorem d_Rm_evenedPad_17 : decode b_Rm_evenedPad 17 = .ok (.iload_n 2, 1) := by decide +kernel
theorem d_Rm_evenedPad_18 : decode b_Rm_evenedPad 18 = .ok (.iaload, 1) := by decide +kernel
theorem d_Rm_evenedPad_19 : decode b_Rm_evenedPad 19 = .ok (.iadd, 1) := by decide +kernel
theorem d_Rm_evenedPad_20 : decode b_Rm_evenedPad 20 = .ok (.istore_n 1, 1) := by decide +kernel
theorem d_Rm_evenedPad_21 : decode b_Rm_evenedPad 21 = .ok (.iinc 2 1, 3) := by decide +kernel
theorem d_Rm_evenedPad_24 : decode b_Rm_evenedPad 24 = .ok (.goto (-20), 3) := by decide +kernel
theorem d_Rm_evenedPad_27 : decode b_Rm_evenedPad 27 = .ok (.aload_n 0, 1) := by decide +kernel
theorem d_Rm_evenedPad_28 : decode b_Rm_evenedPad 28 = .ok (.getfield 13, 3) := by decide +kernel
theorem d_Rm_evenedPad_31 : decode b_Rm_evenedPad 31 = .ok (.newarray .int, 2) := by decide +kernel
theorem d_Rm_evenedPad_33 : decode b_Rm_evenedPad 33 = .ok (.astore_n 2, 1) := by decide +kernel
theorem d_Rm_evenedPad_34 : decode b_Rm_evenedPad 34 = .ok (.iconst 0, 1) := by decide +kernel
theorem d_Rm_evenedPad_35 : decode b_Rm_evenedPad 35 = .ok (.istore_n 3, 1) := by decide +kernel
theorem d_Rm_evenedPad_36 : decode b_Rm_evenedPad 36 = .ok (.iload_n 3, 1) := by decide +kernel
theorem d_Rm_evenedPad_37 : decode b_Rm_evenedPad 37 = .ok (.aload_n 2, 1) := by decide +kernel
theorem d_Rm_evenedPad_38 : decode b_Rm_evenedPad 38 = .ok (.arraylength, 1) := by decide +kernel
theorem d_Rm_evenedPad_39 : decode b_Rm_evenedPad 39 = .ok (.if_icmp .ge 36, 3) := by decide +kernel
theorem d_Rm_evenedPad_42 : decode b_Rm_evenedPad 42 = .ok (.iload_n 1, 1) := by decide +kernel
theorem d_Rm_evenedPad_43 : decode b_Rm_evenedPad 43 = .ok (.ifCond .le 32, 3) := by decide +kernel
theorem d_Rm_evenedPad_46 : decode b_Rm_evenedPad 46 = .ok (.aload_n 2, 1) := by decide +kernel
theorem d_Rm_evenedPad_47 : decode b_Rm_evenedPad 47 = .ok (.iload_n 3, 1) := by decide +kernel
theorem d_Rm_evenedPad_48 : decode b_Rm_evenedPad 48 = .ok (.sipush 400, 3) := by decide +kernel
theorem d_Rm_evenedPad_51 : decode b_Rm_evenedPad 51 = .ok (.bipush 100, 2) := by decide +kernel
theorem d_Rm_evenedPad_53 : decode b_Rm_evenedPad 53 = .ok (.aload_n 0, 1) := by decide +kernel
theorem d_Rm_evenedPad_54 : decode b_Rm_evenedPad 54 = .ok (.getfield 9, 3) := by decide +kernel
theorem d_Rm_evenedPad_57 : decode b_Rm_evenedPad 57 = .ok (.iload_n 3, 1) := by decide +kernel
theorem d_Rm_evenedPad_58 : decode b_Rm_evenedPad 58 = .ok (.iaload, 1) := by decide +kernel
theorem d_Rm_evenedPad_59 : decode b_Rm_evenedPad 59 = .ok (.imul, 1) := by decide +kernel
theorem d_Rm_evenedPad_60 : decode b_Rm_evenedPad 60 = .ok (.aload_n 2, 1) := by decide +kernel
theorem d_Rm_evenedPad_61 : decode b_Rm_evenedPad 61 = .ok (.arraylength, 1) := by decide +kernel
theorem d_Rm_evenedPad_62 : decode b_Rm_evenedPad 62 = .ok (.imul, 1) := by decide +kernel
theorem d_Rm_evenedPad_63 : decode b_Rm_evenedPad 63 = .ok (.iload_n 1, 1) := by decide +kernel
theorem d_Rm_evenedPad_64 : decode b_Rm_evenedPad 64 = .ok (.idiv, 1) := by decide +kernel
theorem d_Rm_evenedPad_65 : decode b_Rm_evenedPad 65 = .ok (.invokestatic 235, 3) := by decide +kernel
theorem d_Rm_evenedPad_68 : decode b_Rm_evenedPad 68 = .ok (.iastore, 1) := by decide +kernel
theorem d_Rm_evenedPad_69 : decode b_Rm_evenedPad 69 = .ok (.iinc 3 1, 3) := by decide +kernel
theorem d_Rm_evenedPad_72 : decode b_Rm_evenedPad 72 = .ok (.goto (-36), 3) := by decide +kernel
theorem d_Rm_evenedPad_75 : decode b_Rm_evenedPad 75 = .ok (.aload_n 2, 1) := by decide +kernel
theorem d_Rm_evenedPad_76 : decode b_Rm_evenedPad 76 = .ok (.areturn, 1) := by decide +kernel
theorem d_Rm_evened_0 : decode b_Rm_evened 0 = .ok (.aload_n 0, 1) := by decide +kernel
theorem d_Rm_evened_1 : decode b_Rm_evened 1 = .ok (.iload_n 1, 1) := by decide +kernel
theorem d_Rm_evened_2 : decode b_Rm_evened 2 = .ok (.invokevirtual 83, 3) := by decide +kernel
theorem d_Rm_evened_5 : decode b_Rm_evened 5 = .ok (.astore_n 3, 1) := by decide +kernel
theorem d_Rm_evened_6 : decode b_Rm_evened 6 = .ok (.iload_n 2, 1) := by decide +kernel
theorem d_Rm_evened_7 : decode b_Rm_evened 7 = .ok (.iconst (-1), 1) := by decide +kernel
theorem d_Rm_evened_8 : decode b_Rm_evened 8 = .ok (.if_icmp .ne 9, 3) := by decide +kernel
theorem d_Rm_evened_11 : decode b_Rm_evened 11 = .ok (.aload_n 3, 1) := by decide +kernel
theorem d_Rm_evened_12 : decode b_Rm_evened 12 = .ok (.getfield 87, 3) := by decide +kernel
theorem d_Rm_evened_15 : decode b_Rm_evened 15 = .ok (.arraylength, 1) := by decide +kernel
theorem d_Rm_evened_16 : decode b_Rm_evened 16 = .ok (.ireturn, 1) := by decide +kernel
theorem d_Rm_evened_17 : decode b_Rm_evened 17 = .ok (.iload_n 2, 1) := by decide +kernel
theorem d_Rm_evened_18 : decode b_Rm_evened 18 = .ok (.ifCond .lt 12, 3) := by decide +kernel
theorem d_Rm_evened_21 : decode b_Rm_evened 21 = .ok (.iload_n 2, 1) := by decide +kernel
theorem d_Rm_evened_22 : decode b_Rm_evened 22 = .ok (.aload_n 3, 1) := by decide +kernel
theorem d_Rm_evened_23 : decode b_Rm_evened 23 = .ok (.getfield 87, 3) := by decide +kernel
theorem d_Rm_evened_26 : decode b_Rm_evened 26 = .ok (.arraylength, 1) := by decide +kernel
theorem d_Rm_evened_27 : decode b_Rm_evened 27 = .ok (.if_icmp .lt 13, 3) := by decide +kernel
theorem d_Rm_evened_30 : decode b_Rm_evened 30 = .ok (.new 90, 3) := by decide +kernel
theorem d_Rm_evened_33 : decode b_Rm_evened 33 = .ok (.dup, 1) := by decide +kernel
theorem d_Rm_evened_34 : decode b_Rm_evened 34 = .ok (.ldc 92, 2) := by decide +kernel
theorem d_Rm_evened_36 : decode b_Rm_evened 36 = .ok (.invokespecial 94, 3) := by decide +kernel
theorem d_Rm_evened_39 : decode b_Rm_evened 39 = .ok (.athrow, 1) := by decide +kernel
theorem d_Rm_evened_40 : decode b_Rm_evened 40 = .ok (.aload_n 3, 1) := by decide +kernel
theorem d_Rm_evened_41 : decode b_Rm_evened 41 = .ok (.getfield 87, 3) := by decide +kernel
theorem d_Rm_evened_44 : decode b_Rm_evened 44 = .ok (.iload_n 2, 1) := by decide +kernel
theorem d_Rm_evened_45 : decode b_Rm_evened 45 = .ok (.iaload, 1) := by decide +kernel
theorem d_Rm_evened_46 : decode b_Rm_evened 46 = .ok (.ireturn, 1) := by decide +kernel
theorem d_Rm_rowOf_0 : decode b_Rm_rowOf 0 = .ok (.iload_n 1, 1) := by decide +kernel
theorem d_Rm_rowOf_1 : decode b_Rm_rowOf 1 = .ok (.ifCond .lt 11, 3) := by decide +kernel
theorem d_Rm_rowOf_4 : decode b_Rm_rowOf 4 = .ok (.iload_n 1, 1) := by decide +kernel
theorem d_Rm_rowOf_5 : decode b_Rm_rowOf 5 = .ok (.aload_n 0, 1) := by decide +kernel
theorem d_Rm_rowOf_6 : decode b_Rm_rowOf 6 = .ok (.getfield 23, 3) := by decide +kernel
theorem d_Rm_rowOf_9 : decode b_Rm_rowOf 9 = .ok (.if_icmp .lt 13, 3) := by decide +kernel
theorem d_Rm_rowOf_12 : decode b_Rm_rowOf 12 = .ok (.new 90, 3) := by decide +kernel
theorem d_Rm_rowOf_15 : decode b_Rm_rowOf 15 = .ok (.dup, 1) := by decide +kernel
theorem d_Rm_rowOf_16 : decode b_Rm_rowOf 16 = .ok (.ldc 231, 2) := by decide +kernel
theorem d_Rm_rowOf_18 : decode b_Rm_rowOf 18 = .ok (.invokespecial 94, 3) := by decide +kernel
theorem d_Rm_rowOf_21 : decode b_Rm_rowOf 21 = .ok (.athrow, 1) := by decide +kernel
theorem d_Rm_rowOf_22 : decode b_Rm_rowOf 22 = .ok (.aload_n 0, 1) := by decide +kernel
theorem d_Rm_rowOf_23 : decode b_Rm_rowOf 23 = .ok (.getfield 19, 3) := by decide +kernel
theorem d_Rm_rowOf_26 : decode b_Rm_rowOf 26 = .ok (.iload_n 1, 1) := by decide +kernel
theorem d_Rm_rowOf_27 : decode b_Rm_rowOf 27 = .ok (.aaload, 1) := by decide +kernel
theorem d_Rm_rowOf_28 : decode b_Rm_rowOf 28 = .ok (.areturn, 1) := by decide +kernel
theorem d_Rm_place_0 : decode b_Rm_place 0 = .ok (.aload_n 0, 1) := by decide +kernel
theorem d_Rm_place_1 : decode b_Rm_place 1 = .ok (.iload_n 1, 1) := by decide +kernel
theorem d_Rm_place_2 : decode b_Rm_place 2 = .ok (.invokevirtual 83, 3) := by decide +kernel
theorem d_Rm_place_5 : decode b_Rm_place 5 = .ok (.astore_n 3, 1) := by decide +kernel
theorem d_Rm_place_6 : decode b_Rm_place 6 = .ok (.iload_n 2, 1) := by decide +kernel
theorem d_Rm_place_7 : decode b_Rm_place 7 = .ok (.iconst (-1), 1) := by decide +kernel
theorem d_Rm_place_8 : decode b_Rm_place 8 = .ok (.if_icmp .lt 10, 3) := by decide +kernel
theorem d_Rm_place_11 : decode b_Rm_place 11 = .ok (.iload_n 2, 1) := by decide +kernel
theorem d_Rm_place_12 : decode b_Rm_place 12 = .ok (.sipush 500, 3) := by decide +kernel
theorem d_Rm_place_15 : decode b_Rm_place 15 = .ok (.if_icmp .le 13, 3) := by decide +kernel
theorem d_Rm_place_18 : decode b_Rm_place 18 = .ok (.new 69, 3) := by decide +kernel
theorem d_Rm_place_21 : decode b_Rm_place 21 = .ok (.dup, 1) := by decide +kernel
theorem d_Rm_place_22 : decode b_Rm_place 22 = .ok (.ldc 95, 2) := by decide +kernel
theorem d_Rm_place_24 : decode b_Rm_place 24 = .ok (.invokespecial 73, 3) := by decide +kernel
theorem d_Rm_place_27 : decode b_Rm_place 27 = .ok (.athrow, 1) := by decide +kernel
theorem d_Rm_place_28 : decode b_Rm_place 28 = .ok (.aload_n 3, 1) := by decide +kernel
theorem d_Rm_place_29 : decode b_Rm_place 29 = .ok (.getfield 97, 3) := by decide +kernel
theorem d_Rm_place_32 : decode b_Rm_place 32 = .ok (.istore 4, 2) := by decide +kernel
theorem d_Rm_place_34 : decode b_Rm_place 34 = .ok (.aload_n 3, 1) := by decide +kernel
theorem d_Rm_place_35 : decode b_Rm_place 35 = .ok (.iload_n 2, 1) := by decide +kernel
theorem d_Rm_place_36 : decode b_Rm_place 36 = .ok (.putfield 97, 3) := by decide +kernel
theorem d_Rm_place_39 : decode b_Rm_place 39 = .ok (.iload 4, 2) := by decide +kernel
theorem d_Rm_place_41 : decode b_Rm_place 41 = .ok (.ireturn, 1) := by decide +kernel
theorem d_Rm_master_0 : decode b_Rm_master 0 = .ok (.aload_n 0, 1) := by decide +kernel
theorem d_Rm_master_1 : decode b_Rm_master 1 = .ok (.getfield 32, 3) := by decide +kernel
theorem d_Rm_master_4 : decode b_Rm_master 4 = .ok (.bipush 8, 2) := by decide +kernel
theorem d_Rm_master_6 : decode b_Rm_master 6 = .ok (.if_icmp .lt 13, 3) := by decide +kernel
theorem d_Rm_master_9 : decode b_Rm_master 9 = .ok (.new 62, 3) := by decide +kernel
theorem d_Rm_master_12 : decode b_Rm_master 12 = .ok (.dup, 1) := by decide +kernel
theorem d_Rm_master_13 : decode b_Rm_master 13 = .ok (.ldc 100, 2) := by decide +kernel
theorem d_Rm_master_15 : decode b_Rm_master 15 = .ok (.invokespecial 66, 3) := by decide +kernel
theorem d_Rm_master_18 : decode b_Rm_master 18 = .ok (.athrow, 1) := by decide +kernel
theorem d_Rm_master_19 : decode b_Rm_master 19 = .ok (.iload_n 1, 1) := by decide +kernel
theorem d_Rm_master_20 : decode b_Rm_master 20 = .ok (.ifCond .lt 10, 3) := by decide +kernel
theorem d_Rm_master_23 : decode b_Rm_master 23 = .ok (.iload_n 1, 1) := by decide +kernel
theorem d_Rm_master_24 : decode b_Rm_master 24 = .ok (.sipush 1023, 3) := by decide +kernel
theorem d_Rm_master_27 : decode b_Rm_master 27 = .ok (.if_icmp .le 13, 3) := by decide +kernel
theorem d_Rm_master_30 : decode b_Rm_master 30 = .ok (.new 69, 3) := by decide +kernel
theorem d_Rm_master_33 : decode b_Rm_master 33 = .ok (.dup, 1) := by decide +kernel
theorem d_Rm_master_34 : decode b_Rm_master 34 = .ok (.ldc 102, 2) := by decide +kernel
theorem d_Rm_master_36 : decode b_Rm_master 36 = .ok (.invokespecial 73, 3) := by decide +kernel
theorem d_Rm_master_39 : decode b_Rm_master 39 = .ok (.athrow, 1) := by decide +kernel
theorem d_Rm_master_40 : decode b_Rm_master 40 = .ok (.aload_n 0, 1) := by decide +kernel
theorem d_Rm_master_41 : decode b_Rm_master 41 = .ok (.iload_n 1, 1) := by decide +kernel
theorem d_Rm_master_42 : decode b_Rm_master 42 = .ok (.invokevirtual 104, 3) := by decide +kernel
theorem d_Rm_master_45 : decode b_Rm_master 45 = .ok (.istore_n 2, 1) := by decide +kernel
theorem d_Rm_master_46 : decode b_Rm_master 46 = .ok (.iload_n 2, 1) := by decide +kernel
theorem d_Rm_master_47 : decode b_Rm_master 47 = .ok (.ifCond .ne 5, 3) := by decide +kernel
theorem d_Rm_master_50 : decode b_Rm_master 50 = .ok (.iconst (-1), 1) := by decide +kernel
theorem d_Rm_master_51 : decode b_Rm_master 51 = .ok (.ireturn, 1) := by decide +kernel
theorem d_Rm_master_52 : decode b_Rm_master 52 = .ok (.new 26, 3) := by decide +kernel
theorem d_Rm_master_55 : decode b_Rm_master 55 = .ok (.dup, 1) := by decide +kernel
theorem d_Rm_master_56 : decode b_Rm_master 56 = .ok (.aload_n 0, 1) := by decide +kernel
theorem d_Rm_master_57 : decode b_Rm_master 57 = .ok (.iload_n 2, 1) := by decide +kernel
theorem d_Rm_master_58 : decode b_Rm_master 58 = .ok (.invokevirtual 108, 3) := by decide +kernel
theorem d_Rm_master_61 : decode b_Rm_master 61 = .ok (.aload_n 0, 1) := by decide +kernel
theorem d_Rm_master_62 : decode b_Rm_master 62 = .ok (.iload_n 2, 1) := by decide +kernel
theorem d_Rm_master_63 : decode b_Rm_master 63 = .ok (.invokevirtual 112, 3) := by decide +kernel
theorem d_Rm_master_66 : decode b_Rm_master 66 = .ok (.aload_n 0, 1) := by decide +kernel
theorem d_Rm_master_67 : decode b_Rm_master 67 = .ok (.iload_n 2, 1) := by decide +kernel
theorem d_Rm_master_68 : decode b_Rm_master 68 = .ok (.invokevirtual 115, 3) := by decide +kernel
theorem d_Rm_master_71 : decode b_Rm_master 71 = .ok (.iload_n 2, 1) := by decide +kernel
theorem d_Rm_master_72 : decode b_Rm_master 72 = .ok (.invokestatic 118, 3) := by decide +kernel
theorem d_Rm_master_75 : decode b_Rm_master 75 = .ok (.invokespecial 123, 3) := by decide +kernel
theorem d_Rm_master_78 : decode b_Rm_master 78 = .ok (.astore_n 3, 1) := by decide +kernel
theorem d_Rm_master_79 : decode b_Rm_master 79 = .ok (.aload_n 0, 1) := by decide +kernel
theorem d_Rm_master_80 : decode b_Rm_master 80 = .ok (.aload_n 3, 1) := by decide +kernel
theorem d_Rm_master_81 : decode b_Rm_master 81 = .ok (.invokevirtual 126, 3) := by decide +kernel
theorem d_Rm_master_84 : decode b_Rm_master 84 = .ok (.aload_n 0, 1) := by decide +kernel
theorem d_Rm_master_85 : decode b_Rm_master 85 = .ok (.getfield 28, 3) := by decide +kernel
theorem d_Rm_master_88 : decode b_Rm_master 88 = .ok (.aload_n 0, 1) := by decide +kernel
theorem d_Rm_master_89 : decode b_Rm_master 89 = .ok (.getfield 32, 3) := by decide +kernel
theorem d_Rm_master_92 : decode b_Rm_master 92 = .ok (.aload_n 3, 1) := by decide +kernel
theorem d_Rm_master_93 : decode b_Rm_master 93 = .ok (.aastore, 1) := by decide +kernel
theorem d_Rm_master_94 : decode b_Rm_master 94 = .ok (.aload_n 0, 1) := by decide +kernel
theorem d_Rm_master_95 : decode b_Rm_master 95 = .ok (.dup, 1) := by decide +kernel
theorem d_Rm_master_96 : decode b_Rm_master 96 = .ok (.getfield 32, 3) := by decide +kernel
theorem d_Rm_master_99 : decode b_Rm_master 99 = .ok (.iconst 1, 1) := by decide +kernel
theorem d_Rm_master_100 : decode b_Rm_master 100 = .ok (.iadd, 1) := by decide +kernel
theorem d_Rm_master_101 : decode b_Rm_master 101 = .ok (.putfield 32, 3) := by decide +kernel
theorem d_Rm_master_104 : decode b_Rm_master 104 = .ok (.aload_n 0, 1) := by decide +kernel
theorem d_Rm_master_105 : decode b_Rm_master 105 = .ok (.getfield 32, 3) := by decide +kernel
theorem d_Rm_master_108 : decode b_Rm_master 108 = .ok (.iconst 1, 1) := by decide +kernel
theorem d_Rm_master_109 : decode b_Rm_master 109 = .ok (.isub, 1) := by decide +kernel
theorem d_Rm_master_110 : decode b_Rm_master 110 = .ok (.ireturn, 1) := by decide +kernel
theorem d_Rm_membersOf_0 : decode b_Rm_membersOf 0 = .ok (.iconst 0, 1) := by decide +kernel
theorem d_Rm_membersOf_1 : decode b_Rm_membersOf 1 = .ok (.istore_n 2, 1) := by decide +kernel
theorem d_Rm_membersOf_2 : decode b_Rm_membersOf 2 = .ok (.iconst 0, 1) := by decide +kernel
theorem d_Rm_membersOf_3 : decode b_Rm_membersOf 3 = .ok (.istore_n 3, 1) := by decide +kernel
theorem d_Rm_membersOf_4 : decode b_Rm_membersOf 4 = .ok (.iload_n 3, 1) := by decide +kernel
theorem d_Rm_membersOf_5 : decode b_Rm_membersOf 5 = .ok (.aload_n 0, 1) := by decide +kernel
theorem d_Rm_membersOf_6 : decode b_Rm_membersOf 6 = .ok (.getfield 23, 3) := by decide +kernel
theorem d_Rm_membersOf_9 : decode b_Rm_membersOf 9 = .ok (.if_icmp .ge 37, 3) := by decide +kernel
theorem d_Rm_membersOf_12 : decode b_Rm_membersOf 12 = .ok (.iload_n 1, 1) := by decide +kernel
theorem d_Rm_membersOf_13 : decode b_Rm_membersOf 13 = .ok (.iload_n 3, 1) := by decide +kernel
theorem d_Rm_membersOf_14 : decode b_Rm_membersOf 14 = .ok (.ishr, 1) := by decide +kernel
theorem d_Rm_membersOf_15 : decode b_Rm_membersOf 15 = .ok (.iconst 1, 1) := by decide +kernel
theorem d_Rm_membersOf_16 : decode b_Rm_membersOf 16 = .ok (.iand, 1) := by decide +kernel
theorem d_Rm_membersOf_17 : decode b_Rm_membersOf 17 = .ok (.iconst 1, 1) := by decide +kernel
theorem d_Rm_membersOf_18 : decode b_Rm_membersOf 18 = .ok (.if_icmp .ne 22, 3) := by decide +kernel
theorem d_Rm_membersOf_21 : decode b_Rm_membersOf 21 = .ok (.aload_n 0, 1) := by decide +kernel
theorem d_Rm_membersOf_22 : decode b_Rm_membersOf 22 = .ok (.getfield 19, 3) := by decide +kernel
theorem d_Rm_membersOf_25 : decode b_Rm_membersOf 25 = .ok (.iload_n 3, 1) := by decide +kernel
theorem d_Rm_membersOf_26 : decode b_Rm_membersOf 26 = .ok (.aaload, 1) := by decide +kernel
theorem d_Rm_membersOf_27 : decode b_Rm_membersOf 27 = .ok (.getfield 97, 3) := by decide +kernel
theorem d_Rm_membersOf_30 : decode b_Rm_membersOf 30 = .ok (.iconst (-1), 1) := by decide +kernel
theorem d_Rm_membersOf_31 : decode b_Rm_membersOf 31 = .ok (.if_icmp .eq 9, 3) := by decide +kernel
theorem d_Rm_membersOf_34 : decode b_Rm_membersOf 34 = .ok (.iload_n 2, 1) := by decide +kernel
theorem d_Rm_membersOf_35 : decode b_Rm_membersOf 35 = .ok (.iconst 1, 1) := by decide +kernel
theorem d_Rm_membersOf_36 : decode b_Rm_membersOf 36 = .ok (.iload_n 3, 1) := by decide +kernel
theorem d_Rm_membersOf_37 : decode b_Rm_membersOf 37 = .ok (.ishl, 1) := by decide +kernel
theorem d_Rm_membersOf_38 : decode b_Rm_membersOf 38 = .ok (.ior, 1) := by decide +kernel
theorem d_Rm_membersOf_39 : decode b_Rm_membersOf 39 = .ok (.istore_n 2, 1) := by decide +kernel
theorem d_Rm_membersOf_40 : decode b_Rm_membersOf 40 = .ok (.iinc 3 1, 3) := by decide +kernel
theorem d_Rm_membersOf_43 : decode b_Rm_membersOf 43 = .ok (.goto (-39), 3) := by decide +kernel
theorem d_Rm_membersOf_46 : decode b_Rm_membersOf 46 = .ok (.iload_n 2, 1) := by decide +kernel
theorem d_Rm_membersOf_47 : decode b_Rm_membersOf 47 = .ok (.ireturn, 1) := by decide +kernel
theorem d_Rm_startsOf_0 : decode b_Rm_startsOf 0 = .ok (.bipush 10, 2) := by decide +kernel
theorem d_Rm_startsOf_2 : decode b_Rm_startsOf 2 = .ok (.newarray .int, 2) := by decide +kernel
theorem d_Rm_startsOf_4 : decode b_Rm_startsOf 4 = .ok (.astore_n 2, 1) := by decide +kernel
theorem d_Rm_startsOf_5 : decode b_Rm_startsOf 5 = .ok (.aload_n 2, 1) := by decide +kernel
theorem d_Rm_startsOf_6 : decode b_Rm_startsOf 6 = .ok (.iconst (-1), 1) := by decide +kernel
theorem d_Rm_startsOf_7 : decode b_Rm_startsOf 7 = .ok (.invokestatic 240, 3) := by decide +kernel
theorem d_Rm_startsOf_10 : decode b_Rm_startsOf 10 = .ok (.iconst 0, 1) := by decide +kernel
theorem d_Rm_startsOf_11 : decode b_Rm_startsOf 11 = .ok (.istore_n 3, 1) := by decide +kernel
theorem d_Rm_startsOf_12 : decode b_Rm_startsOf 12 = .ok (.iload_n 3, 1) := by decide +kernel
theorem d_Rm_startsOf_13 : decode b_Rm_startsOf 13 = .ok (.aload_n 0, 1) := by decide +kernel
theorem d_Rm_startsOf_14 : decode b_Rm_startsOf 14 = .ok (.getfield 23, 3) := by decide +kernel
theorem d_Rm_startsOf_17 : decode b_Rm_startsOf 17 = .ok (.if_icmp .ge 30, 3) := by decide +kernel
theorem d_Rm_startsOf_20 : decode b_Rm_startsOf 20 = .ok (.iload_n 1, 1) := by decide +kernel
theorem d_Rm_startsOf_21 : decode b_Rm_startsOf 21 = .ok (.iload_n 3, 1) := by decide +kernel
theorem d_Rm_startsOf_22 : decode b_Rm_startsOf 22 = .ok (.ishr, 1) := by decide +kernel
theorem d_Rm_startsOf_23 : decode b_Rm_startsOf 23 = .ok (.iconst 1, 1) := by decide +kernel
theorem d_Rm_startsOf_24 : decode b_Rm_startsOf 24 = .ok (.iand, 1) := by decide +kernel
theorem d_Rm_startsOf_25 : decode b_Rm_startsOf 25 = .ok (.iconst 1, 1) := by decide +kernel
theorem d_Rm_startsOf_26 : decode b_Rm_startsOf 26 = .ok (.if_icmp .ne 15, 3) := by decide +kernel
theorem d_Rm_startsOf_29 : decode b_Rm_startsOf 29 = .ok (.aload_n 2, 1) := by decide +kernel
theorem d_Rm_startsOf_30 : decode b_Rm_startsOf 30 = .ok (.iload_n 3, 1) := by decide +kernel
theorem d_Rm_startsOf_31 : decode b_Rm_startsOf 31 = .ok (.aload_n 0, 1) := by decide +kernel
theorem d_Rm_startsOf_32 : decode b_Rm_startsOf 32 = .ok (.getfield 19, 3) := by decide +kernel
theorem d_Rm_startsOf_35 : decode b_Rm_startsOf 35 = .ok (.iload_n 3, 1) := by decide +kernel
theorem d_Rm_startsOf_36 : decode b_Rm_startsOf 36 = .ok (.aaload, 1) := by decide +kernel
theorem d_Rm_startsOf_37 : decode b_Rm_startsOf 37 = .ok (.getfield 97, 3) := by decide +kernel
theorem d_Rm_startsOf_40 : decode b_Rm_startsOf 40 = .ok (.iastore, 1) := by decide +kernel
theorem d_Rm_startsOf_41 : decode b_Rm_startsOf 41 = .ok (.iinc 3 1, 3) := by decide +kernel
theorem d_Rm_startsOf_44 : decode b_Rm_startsOf 44 = .ok (.goto (-32), 3) := by decide +kernel
theorem d_Rm_startsOf_47 : decode b_Rm_startsOf 47 = .ok (.aload_n 2, 1) := by decide +kernel
theorem d_Rm_startsOf_48 : decode b_Rm_startsOf 48 = .ok (.areturn, 1) := by decide +kernel
theorem d_Rm_firstYearOf_0 : decode b_Rm_firstYearOf 0 = .ok (.sipush 500, 3) := by decide +kernel
theorem d_Rm_firstYearOf_3 : decode b_Rm_firstYearOf 3 = .ok (.istore_n 2, 1) := by decide +kernel
theorem d_Rm_firstYearOf_4 : decode b_Rm_firstYearOf 4 = .ok (.iconst 0, 1) := by decide +kernel
theorem d_Rm_firstYearOf_5 : decode b_Rm_firstYearOf 5 = .ok (.istore_n 3, 1) := by decide +kernel
theorem d_Rm_firstYearOf_6 : decode b_Rm_firstYearOf 6 = .ok (.iload_n 3, 1) := by decide +kernel
theorem d_Rm_firstYearOf_7 : decode b_Rm_firstYearOf 7 = .ok (.aload_n 0, 1) := by decide +kernel
theorem d_Rm_firstYearOf_8 : decode b_Rm_firstYearOf 8 = .ok (.getfield 23, 3) := by decide +kernel
theorem d_Rm_firstYearOf_11 : decode b_Rm_firstYearOf 11 = .ok (.if_icmp .ge 32, 3) := by decide +kernel
theorem d_Rm_firstYearOf_14 : decode b_Rm_firstYearOf 14 = .ok (.iload_n 1, 1) := by decide +kernel
theorem d_Rm_firstYearOf_15 : decode b_Rm_firstYearOf 15 = .ok (.iload_n 3, 1) := by decide +kernel
theorem d_Rm_firstYearOf_16 : decode b_Rm_firstYearOf 16 = .ok (.ishr, 1) := by decide +kernel
theorem d_Rm_firstYearOf_17 : decode b_Rm_firstYearOf 17 = .ok (.iconst 1, 1) := by decide +kernel
theorem d_Rm_firstYearOf_18 : decode b_Rm_firstYearOf 18 = .ok (.iand, 1) := by decide +kernel
theorem d_Rm_firstYearOf_19 : decode b_Rm_firstYearOf 19 = .ok (.iconst 1, 1) := by decide +kernel
theorem d_Rm_firstYearOf_20 : decode b_Rm_firstYearOf 20 = .ok (.if_icmp .ne 17, 3) := by decide +kernel
theorem d_Rm_firstYearOf_23 : decode b_Rm_firstYearOf 23 = .ok (.iload_n 2, 1) := by decide +kernel
theorem d_Rm_firstYearOf_24 : decode b_Rm_firstYearOf 24 = .ok (.aload_n 0, 1) := by decide +kernel
theorem d_Rm_firstYearOf_25 : decode b_Rm_firstYearOf 25 = .ok (.getfield 19, 3) := by decide +kernel

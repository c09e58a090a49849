theorem d_Rm_sameTree_27 : decode b_Rm_sameTree 27 = .ok (.if_icmp .ne 5, 3) := by decide +kernel
theorem d_Rm_sameTree_30 : decode b_Rm_sameTree 30 = .ok (.iconst 0, 1) := by decide +kernel
theorem d_Rm_sameTree_31 : decode b_Rm_sameTree 31 = .ok (.ireturn, 1) := by decide +kernel
theorem d_Rm_sameTree_32 : decode b_Rm_sameTree 32 = .ok (.aload_n 0, 1) := by decide +kernel
theorem d_Rm_sameTree_33 : decode b_Rm_sameTree 33 = .ok (.getfield 48, 3) := by decide +kernel
theorem d_Rm_sameTree_36 : decode b_Rm_sameTree 36 = .ok (.invokevirtual 211, 3) := by decide +kernel
theorem d_Rm_sameTree_39 : decode b_Rm_sameTree 39 = .ok (.iconst 0, 1) := by decide +kernel
theorem d_Rm_sameTree_40 : decode b_Rm_sameTree 40 = .ok (.istore 5, 2) := by decide +kernel
theorem d_Rm_sameTree_42 : decode b_Rm_sameTree 42 = .ok (.iload 5, 2) := by decide +kernel
theorem d_Rm_sameTree_44 : decode b_Rm_sameTree 44 = .ok (.aload_n 3, 1) := by decide +kernel
theorem d_Rm_sameTree_45 : decode b_Rm_sameTree 45 = .ok (.getfield 87, 3) := by decide +kernel
theorem d_Rm_sameTree_48 : decode b_Rm_sameTree 48 = .ok (.arraylength, 1) := by decide +kernel
theorem d_Rm_sameTree_49 : decode b_Rm_sameTree 49 = .ok (.if_icmp .ge 50, 3) := by decide +kernel
theorem d_Rm_sameTree_52 : decode b_Rm_sameTree 52 = .ok (.aload 4, 2) := by decide +kernel
theorem d_Rm_sameTree_54 : decode b_Rm_sameTree 54 = .ok (.aload_n 3, 1) := by decide +kernel
theorem d_Rm_sameTree_55 : decode b_Rm_sameTree 55 = .ok (.getfield 97, 3) := by decide +kernel
theorem d_Rm_sameTree_58 : decode b_Rm_sameTree 58 = .ok (.iload 5, 2) := by decide +kernel
theorem d_Rm_sameTree_60 : decode b_Rm_sameTree 60 = .ok (.iadd, 1) := by decide +kernel
theorem d_Rm_sameTree_61 : decode b_Rm_sameTree 61 = .ok (.aload 4, 2) := by decide +kernel
theorem d_Rm_sameTree_63 : decode b_Rm_sameTree 63 = .ok (.getfield 97, 3) := by decide +kernel
theorem d_Rm_sameTree_66 : decode b_Rm_sameTree 66 = .ok (.invokevirtual 214, 3) := by decide +kernel
theorem d_Rm_sameTree_69 : decode b_Rm_sameTree 69 = .ok (.istore 6, 2) := by decide +kernel
theorem d_Rm_sameTree_71 : decode b_Rm_sameTree 71 = .ok (.iload 6, 2) := by decide +kernel
theorem d_Rm_sameTree_73 : decode b_Rm_sameTree 73 = .ok (.iconst (-1), 1) := by decide +kernel
theorem d_Rm_sameTree_74 : decode b_Rm_sameTree 74 = .ok (.if_icmp .eq 19, 3) := by decide +kernel
theorem d_Rm_sameTree_77 : decode b_Rm_sameTree 77 = .ok (.aload_n 0, 1) := by decide +kernel
theorem d_Rm_sameTree_78 : decode b_Rm_sameTree 78 = .ok (.getfield 48, 3) := by decide +kernel
theorem d_Rm_sameTree_81 : decode b_Rm_sameTree 81 = .ok (.aload_n 3, 1) := by decide +kernel
theorem d_Rm_sameTree_82 : decode b_Rm_sameTree 82 = .ok (.getfield 87, 3) := by decide +kernel
theorem d_Rm_sameTree_85 : decode b_Rm_sameTree 85 = .ok (.iload 5, 2) := by decide +kernel
theorem d_Rm_sameTree_87 : decode b_Rm_sameTree 87 = .ok (.iaload, 1) := by decide +kernel
theorem d_Rm_sameTree_88 : decode b_Rm_sameTree 88 = .ok (.iload 6, 2) := by decide +kernel
theorem d_Rm_sameTree_90 : decode b_Rm_sameTree 90 = .ok (.invokevirtual 218, 3) := by decide +kernel
theorem d_Rm_sameTree_93 : decode b_Rm_sameTree 93 = .ok (.iinc 5 1, 3) := by decide +kernel
theorem d_Rm_sameTree_96 : decode b_Rm_sameTree 96 = .ok (.goto (-54), 3) := by decide +kernel
theorem d_Rm_sameTree_99 : decode b_Rm_sameTree 99 = .ok (.aload_n 0, 1) := by decide +kernel
theorem d_Rm_sameTree_100 : decode b_Rm_sameTree 100 = .ok (.getfield 48, 3) := by decide +kernel
theorem d_Rm_sameTree_103 : decode b_Rm_sameTree 103 = .ok (.getfield 222, 3) := by decide +kernel
theorem d_Rm_sameTree_106 : decode b_Rm_sameTree 106 = .ok (.iconst 5, 1) := by decide +kernel
theorem d_Rm_sameTree_107 : decode b_Rm_sameTree 107 = .ok (.if_icmp .lt 27, 3) := by decide +kernel
theorem d_Rm_sameTree_110 : decode b_Rm_sameTree 110 = .ok (.aload_n 0, 1) := by decide +kernel
theorem d_Rm_sameTree_111 : decode b_Rm_sameTree 111 = .ok (.getfield 48, 3) := by decide +kernel
theorem d_Rm_sameTree_114 : decode b_Rm_sameTree 114 = .ok (.getfield 225, 3) := by decide +kernel
theorem d_Rm_sameTree_117 : decode b_Rm_sameTree 117 = .ok (.bipush 15, 2) := by decide +kernel
theorem d_Rm_sameTree_119 : decode b_Rm_sameTree 119 = .ok (.aload_n 0, 1) := by decide +kernel
theorem d_Rm_sameTree_120 : decode b_Rm_sameTree 120 = .ok (.getfield 48, 3) := by decide +kernel
theorem d_Rm_sameTree_123 : decode b_Rm_sameTree 123 = .ok (.getfield 222, 3) := by decide +kernel
theorem d_Rm_sameTree_126 : decode b_Rm_sameTree 126 = .ok (.imul, 1) := by decide +kernel
theorem d_Rm_sameTree_127 : decode b_Rm_sameTree 127 = .ok (.if_icmp .gt 7, 3) := by decide +kernel
theorem d_Rm_sameTree_130 : decode b_Rm_sameTree 130 = .ok (.iconst 1, 1) := by decide +kernel
theorem d_Rm_sameTree_131 : decode b_Rm_sameTree 131 = .ok (.goto 4, 3) := by decide +kernel
theorem d_Rm_sameTree_134 : decode b_Rm_sameTree 134 = .ok (.iconst 0, 1) := by decide +kernel
theorem d_Rm_sameTree_135 : decode b_Rm_sameTree 135 = .ok (.ireturn, 1) := by decide +kernel
theorem d_Rm_count_0 : decode b_Rm_count 0 = .ok (.iload_n 1, 1) := by decide +kernel
theorem d_Rm_count_1 : decode b_Rm_count 1 = .ok (.tableswitch 51 0 3 #[31, 36, 41, 46], 31) := by decide +kernel
theorem d_Rm_count_32 : decode b_Rm_count 32 = .ok (.aload_n 0, 1) := by decide +kernel
theorem d_Rm_count_33 : decode b_Rm_count 33 = .ok (.getfield 13, 3) := by decide +kernel
theorem d_Rm_count_36 : decode b_Rm_count 36 = .ok (.ireturn, 1) := by decide +kernel
theorem d_Rm_count_37 : decode b_Rm_count 37 = .ok (.aload_n 0, 1) := by decide +kernel
theorem d_Rm_count_38 : decode b_Rm_count 38 = .ok (.getfield 23, 3) := by decide +kernel
theorem d_Rm_count_41 : decode b_Rm_count 41 = .ok (.ireturn, 1) := by decide +kernel
theorem d_Rm_count_42 : decode b_Rm_count 42 = .ok (.aload_n 0, 1) := by decide +kernel
theorem d_Rm_count_43 : decode b_Rm_count 43 = .ok (.getfield 32, 3) := by decide +kernel
theorem d_Rm_count_46 : decode b_Rm_count 46 = .ok (.ireturn, 1) := by decide +kernel
theorem d_Rm_count_47 : decode b_Rm_count 47 = .ok (.aload_n 0, 1) := by decide +kernel
theorem d_Rm_count_48 : decode b_Rm_count 48 = .ok (.invokevirtual 228, 3) := by decide +kernel
theorem d_Rm_count_51 : decode b_Rm_count 51 = .ok (.ireturn, 1) := by decide +kernel
theorem d_Rm_count_52 : decode b_Rm_count 52 = .ok (.new 90, 3) := by decide +kernel
theorem d_Rm_count_55 : decode b_Rm_count 55 = .ok (.dup, 1) := by decide +kernel
theorem d_Rm_count_56 : decode b_Rm_count 56 = .ok (.ldc 143, 2) := by decide +kernel
theorem d_Rm_count_58 : decode b_Rm_count 58 = .ok (.invokespecial 94, 3) := by decide +kernel
theorem d_Rm_count_61 : decode b_Rm_count 61 = .ok (.athrow, 1) := by decide +kernel
theorem d_Rm_floatingRows_0 : decode b_Rm_floatingRows 0 = .ok (.iconst 0, 1) := by decide +kernel
theorem d_Rm_floatingRows_1 : decode b_Rm_floatingRows 1 = .ok (.istore_n 1, 1) := by decide +kernel
theorem d_Rm_floatingRows_2 : decode b_Rm_floatingRows 2 = .ok (.iconst 0, 1) := by decide +kernel
theorem d_Rm_floatingRows_3 : decode b_Rm_floatingRows 3 = .ok (.istore_n 2, 1) := by decide +kernel
theorem d_Rm_floatingRows_4 : decode b_Rm_floatingRows 4 = .ok (.iload_n 2, 1) := by decide +kernel
theorem d_Rm_floatingRows_5 : decode b_Rm_floatingRows 5 = .ok (.aload_n 0, 1) := by decide +kernel
theorem d_Rm_floatingRows_6 : decode b_Rm_floatingRows 6 = .ok (.getfield 23, 3) := by decide +kernel
theorem d_Rm_floatingRows_9 : decode b_Rm_floatingRows 9 = .ok (.if_icmp .ge 25, 3) := by decide +kernel
theorem d_Rm_floatingRows_12 : decode b_Rm_floatingRows 12 = .ok (.aload_n 0, 1) := by decide +kernel
theorem d_Rm_floatingRows_13 : decode b_Rm_floatingRows 13 = .ok (.getfield 19, 3) := by decide +kernel
theorem d_Rm_floatingRows_16 : decode b_Rm_floatingRows 16 = .ok (.iload_n 2, 1) := by decide +kernel
theorem d_Rm_floatingRows_17 : decode b_Rm_floatingRows 17 = .ok (.aaload, 1) := by decide +kernel
theorem d_Rm_floatingRows_18 : decode b_Rm_floatingRows 18 = .ok (.getfield 97, 3) := by decide +kernel
theorem d_Rm_floatingRows_21 : decode b_Rm_floatingRows 21 = .ok (.iconst (-1), 1) := by decide +kernel
theorem d_Rm_floatingRows_22 : decode b_Rm_floatingRows 22 = .ok (.if_icmp .ne 6, 3) := by decide +kernel
theorem d_Rm_floatingRows_25 : decode b_Rm_floatingRows 25 = .ok (.iinc 1 1, 3) := by decide +kernel
theorem d_Rm_floatingRows_28 : decode b_Rm_floatingRows 28 = .ok (.iinc 2 1, 3) := by decide +kernel
theorem d_Rm_floatingRows_31 : decode b_Rm_floatingRows 31 = .ok (.goto (-27), 3) := by decide +kernel
theorem d_Rm_floatingRows_34 : decode b_Rm_floatingRows 34 = .ok (.iload_n 1, 1) := by decide +kernel
theorem d_Rm_floatingRows_35 : decode b_Rm_floatingRows 35 = .ok (.ireturn, 1) := by decide +kernel

theorem d_Mo_init_0 : decode b_Mo_init 0 = .ok (.aload_n 0, 1) := by decide +kernel
theorem d_Mo_init_1 : decode b_Mo_init 1 = .ok (.invokespecial 1, 3) := by decide +kernel
theorem d_Mo_init_4 : decode b_Mo_init 4 = .ok (.aload_n 0, 1) := by decide +kernel
theorem d_Mo_init_5 : decode b_Mo_init 5 = .ok (.bipush 30, 2) := by decide +kernel
theorem d_Mo_init_7 : decode b_Mo_init 7 = .ok (.newarray .int, 2) := by decide +kernel
theorem d_Mo_init_9 : decode b_Mo_init 9 = .ok (.putfield 7, 3) := by decide +kernel
theorem d_Mo_init_12 : decode b_Mo_init 12 = .ok (.aload_n 0, 1) := by decide +kernel
theorem d_Mo_init_13 : decode b_Mo_init 13 = .ok (.bipush 10, 2) := by decide +kernel
theorem d_Mo_init_15 : decode b_Mo_init 15 = .ok (.newarray .int, 2) := by decide +kernel
theorem d_Mo_init_17 : decode b_Mo_init 17 = .ok (.putfield 13, 3) := by decide +kernel
theorem d_Mo_init_20 : decode b_Mo_init 20 = .ok (.aload_n 0, 1) := by decide +kernel
theorem d_Mo_init_21 : decode b_Mo_init 21 = .ok (.sipush 300, 3) := by decide +kernel
theorem d_Mo_init_24 : decode b_Mo_init 24 = .ok (.newarray .int, 2) := by decide +kernel
theorem d_Mo_init_26 : decode b_Mo_init 26 = .ok (.putfield 16, 3) := by decide +kernel
theorem d_Mo_init_29 : decode b_Mo_init 29 = .ok (.aload_n 0, 1) := by decide +kernel
theorem d_Mo_init_30 : decode b_Mo_init 30 = .ok (.bipush 10, 2) := by decide +kernel
theorem d_Mo_init_32 : decode b_Mo_init 32 = .ok (.newarray .int, 2) := by decide +kernel
theorem d_Mo_init_34 : decode b_Mo_init 34 = .ok (.putfield 19, 3) := by decide +kernel
theorem d_Mo_init_37 : decode b_Mo_init 37 = .ok (.aload_n 0, 1) := by decide +kernel
theorem d_Mo_init_38 : decode b_Mo_init 38 = .ok (.bipush 80, 2) := by decide +kernel
theorem d_Mo_init_40 : decode b_Mo_init 40 = .ok (.newarray .int, 2) := by decide +kernel
theorem d_Mo_init_42 : decode b_Mo_init 42 = .ok (.putfield 22, 3) := by decide +kernel
theorem d_Mo_init_45 : decode b_Mo_init 45 = .ok (.aload_n 0, 1) := by decide +kernel
theorem d_Mo_init_46 : decode b_Mo_init 46 = .ok (.bipush 8, 2) := by decide +kernel
theorem d_Mo_init_48 : decode b_Mo_init 48 = .ok (.newarray .int, 2) := by decide +kernel
theorem d_Mo_init_50 : decode b_Mo_init 50 = .ok (.putfield 25, 3) := by decide +kernel
theorem d_Mo_init_53 : decode b_Mo_init 53 = .ok (.aload_n 0, 1) := by decide +kernel
theorem d_Mo_init_54 : decode b_Mo_init 54 = .ok (.bipush 8, 2) := by decide +kernel
theorem d_Mo_init_56 : decode b_Mo_init 56 = .ok (.newarray .int, 2) := by decide +kernel
theorem d_Mo_init_58 : decode b_Mo_init 58 = .ok (.putfield 28, 3) := by decide +kernel
theorem d_Mo_init_61 : decode b_Mo_init 61 = .ok (.aload_n 0, 1) := by decide +kernel
theorem d_Mo_init_62 : decode b_Mo_init 62 = .ok (.bipush 61, 2) := by decide +kernel
theorem d_Mo_init_64 : decode b_Mo_init 64 = .ok (.newarray .int, 2) := by decide +kernel
theorem d_Mo_init_66 : decode b_Mo_init 66 = .ok (.putfield 31, 3) := by decide +kernel
theorem d_Mo_init_69 : decode b_Mo_init 69 = .ok (.aload_n 0, 1) := by decide +kernel
theorem d_Mo_init_70 : decode b_Mo_init 70 = .ok (.bipush 8, 2) := by decide +kernel
theorem d_Mo_init_72 : decode b_Mo_init 72 = .ok (.newarray .int, 2) := by decide +kernel
theorem d_Mo_init_74 : decode b_Mo_init 74 = .ok (.putfield 34, 3) := by decide +kernel
theorem d_Mo_init_77 : decode b_Mo_init 77 = .ok (.aload_n 0, 1) := by decide +kernel
theorem d_Mo_init_78 : decode b_Mo_init 78 = .ok (.bipush 8, 2) := by decide +kernel
theorem d_Mo_init_80 : decode b_Mo_init 80 = .ok (.newarray .int, 2) := by decide +kernel
theorem d_Mo_init_82 : decode b_Mo_init 82 = .ok (.putfield 37, 3) := by decide +kernel
theorem d_Mo_init_85 : decode b_Mo_init 85 = .ok (.aload_n 0, 1) := by decide +kernel
theorem d_Mo_init_86 : decode b_Mo_init 86 = .ok (.bipush 8, 2) := by decide +kernel
theorem d_Mo_init_88 : decode b_Mo_init 88 = .ok (.newarray .int, 2) := by decide +kernel
theorem d_Mo_init_90 : decode b_Mo_init 90 = .ok (.putfield 40, 3) := by decide +kernel
theorem d_Mo_init_93 : decode b_Mo_init 93 = .ok (.iconst 0, 1) := by decide +kernel
theorem d_Mo_init_94 : decode b_Mo_init 94 = .ok (.istore_n 1, 1) := by decide +kernel
theorem d_Mo_init_95 : decode b_Mo_init 95 = .ok (.iload_n 1, 1) := by decide +kernel
theorem d_Mo_init_96 : decode b_Mo_init 96 = .ok (.bipush 80, 2) := by decide +kernel
theorem d_Mo_init_98 : decode b_Mo_init 98 = .ok (.if_icmp .ge 16, 3) := by decide +kernel
theorem d_Mo_init_101 : decode b_Mo_init 101 = .ok (.aload_n 0, 1) := by decide +kernel
theorem d_Mo_init_102 : decode b_Mo_init 102 = .ok (.getfield 22, 3) := by decide +kernel
theorem d_Mo_init_105 : decode b_Mo_init 105 = .ok (.iload_n 1, 1) := by decide +kernel
theorem d_Mo_init_106 : decode b_Mo_init 106 = .ok (.iconst (-1), 1) := by decide +kernel
theorem d_Mo_init_107 : decode b_Mo_init 107 = .ok (.iastore, 1) := by decide +kernel
theorem d_Mo_init_108 : decode b_Mo_init 108 = .ok (.iinc 1 1, 3) := by decide +kernel
theorem d_Mo_init_111 : decode b_Mo_init 111 = .ok (.goto (-16), 3) := by decide +kernel
theorem d_Mo_init_114 : decode b_Mo_init 114 = .ok (.iconst 0, 1) := by decide +kernel
theorem d_Mo_init_115 : decode b_Mo_init 115 = .ok (.istore_n 1, 1) := by decide +kernel
theorem d_Mo_init_116 : decode b_Mo_init 116 = .ok (.iload_n 1, 1) := by decide +kernel
theorem d_Mo_init_117 : decode b_Mo_init 117 = .ok (.bipush 10, 2) := by decide +kernel
theorem d_Mo_init_119 : decode b_Mo_init 119 = .ok (.if_icmp .ge 16, 3) := by decide +kernel
theorem d_Mo_init_122 : decode b_Mo_init 122 = .ok (.aload_n 0, 1) := by decide +kernel
theorem d_Mo_init_123 : decode b_Mo_init 123 = .ok (.getfield 19, 3) := by decide +kernel
theorem d_Mo_init_126 : decode b_Mo_init 126 = .ok (.iload_n 1, 1) := by decide +kernel
theorem d_Mo_init_127 : decode b_Mo_init 127 = .ok (.iconst (-1), 1) := by decide +kernel
theorem d_Mo_init_128 : decode b_Mo_init 128 = .ok (.iastore, 1) := by decide +kernel
theorem d_Mo_init_129 : decode b_Mo_init 129 = .ok (.iinc 1 1, 3) := by decide +kernel
theorem d_Mo_init_132 : decode b_Mo_init 132 = .ok (.goto (-16), 3) := by decide +kernel
theorem d_Mo_init_135 : decode b_Mo_init 135 = .ok (.return_, 1) := by decide +kernel
theorem d_Mo_thrown_0 : decode b_Mo_thrown 0 = .ok (.aload_n 0, 1) := by decide +kernel
theorem d_Mo_thrown_1 : decode b_Mo_thrown 1 = .ok (.getfield 43, 3) := by decide +kernel
theorem d_Mo_thrown_4 : decode b_Mo_thrown 4 = .ok (.ireturn, 1) := by decide +kernel
theorem d_Mo_ring_0 : decode b_Mo_ring 0 = .ok (.aload_n 0, 1) := by decide +kernel
theorem d_Mo_ring_1 : decode b_Mo_ring 1 = .ok (.aload_n 0, 1) := by decide +kernel
theorem d_Mo_ring_2 : decode b_Mo_ring 2 = .ok (.getfield 57, 3) := by decide +kernel
theorem d_Mo_ring_5 : decode b_Mo_ring 5 = .ok (.bipush 30, 2) := by decide +kernel
theorem d_Mo_ring_7 : decode b_Mo_ring 7 = .ok (.if_icmp .ge 7, 3) := by decide +kernel
theorem d_Mo_ring_10 : decode b_Mo_ring 10 = .ok (.iconst 1, 1) := by decide +kernel
theorem d_Mo_ring_11 : decode b_Mo_ring 11 = .ok (.goto 4, 3) := by decide +kernel
theorem d_Mo_ring_14 : decode b_Mo_ring 14 = .ok (.iconst 0, 1) := by decide +kernel
theorem d_Mo_ring_15 : decode b_Mo_ring 15 = .ok (.iload_n 1, 1) := by decide +kernel
theorem d_Mo_ring_16 : decode b_Mo_ring 16 = .ok (.iconst 1, 1) := by decide +kernel
theorem d_Mo_ring_17 : decode b_Mo_ring 17 = .ok (.sipush 900, 3) := by decide +kernel
theorem d_Mo_ring_20 : decode b_Mo_ring 20 = .ok (.invokestatic 50, 3) := by decide +kernel
theorem d_Mo_ring_23 : decode b_Mo_ring 23 = .ok (.iconst 1, 1) := by decide +kernel
theorem d_Mo_ring_24 : decode b_Mo_ring 24 = .ok (.invokevirtual 60, 3) := by decide +kernel
theorem d_Mo_ring_27 : decode b_Mo_ring 27 = .ok (.ifCond .ne 5, 3) := by decide +kernel
theorem d_Mo_ring_30 : decode b_Mo_ring 30 = .ok (.iconst 0, 1) := by decide +kernel
theorem d_Mo_ring_31 : decode b_Mo_ring 31 = .ok (.ireturn, 1) := by decide +kernel
theorem d_Mo_ring_32 : decode b_Mo_ring 32 = .ok (.aload_n 0, 1) := by decide +kernel
theorem d_Mo_ring_33 : decode b_Mo_ring 33 = .ok (.getfield 7, 3) := by decide +kernel
theorem d_Mo_ring_36 : decode b_Mo_ring 36 = .ok (.aload_n 0, 1) := by decide +kernel
theorem d_Mo_ring_37 : decode b_Mo_ring 37 = .ok (.getfield 57, 3) := by decide +kernel
theorem d_Mo_ring_40 : decode b_Mo_ring 40 = .ok (.iload_n 1, 1) := by decide +kernel
theorem d_Mo_ring_41 : decode b_Mo_ring 41 = .ok (.iastore, 1) := by decide +kernel
theorem d_Mo_ring_42 : decode b_Mo_ring 42 = .ok (.aload_n 0, 1) := by decide +kernel
theorem d_Mo_ring_43 : decode b_Mo_ring 43 = .ok (.dup, 1) := by decide +kernel
theorem d_Mo_ring_44 : decode b_Mo_ring 44 = .ok (.getfield 57, 3) := by decide +kernel
theorem d_Mo_ring_47 : decode b_Mo_ring 47 = .ok (.iconst 1, 1) := by decide +kernel
theorem d_Mo_ring_48 : decode b_Mo_ring 48 = .ok (.iadd, 1) := by decide +kernel
theorem d_Mo_ring_49 : decode b_Mo_ring 49 = .ok (.putfield 57, 3) := by decide +kernel
theorem d_Mo_ring_52 : decode b_Mo_ring 52 = .ok (.aload_n 0, 1) := by decide +kernel
theorem d_Mo_ring_53 : decode b_Mo_ring 53 = .ok (.getfield 57, 3) := by decide +kernel
theorem d_Mo_ring_56 : decode b_Mo_ring 56 = .ok (.ireturn, 1) := by decide +kernel
theorem d_Mo_within_0 : decode b_Mo_within 0 = .ok (.iload_n 0, 1) := by decide +kernel
theorem d_Mo_within_1 : decode b_Mo_within 1 = .ok (.iload_n 1, 1) := by decide +kernel
theorem d_Mo_within_2 : decode b_Mo_within 2 = .ok (.if_icmp .lt 12, 3) := by decide +kernel
theorem d_Mo_within_5 : decode b_Mo_within 5 = .ok (.iload_n 0, 1) := by decide +kernel
theorem d_Mo_within_6 : decode b_Mo_within 6 = .ok (.iload_n 2, 1) := by decide +kernel
theorem d_Mo_within_7 : decode b_Mo_within 7 = .ok (.if_icmp .gt 7, 3) := by decide +kernel
theorem d_Mo_within_10 : decode b_Mo_within 10 = .ok (.iconst 1, 1) := by decide +kernel
theorem d_Mo_within_11 : decode b_Mo_within 11 = .ok (.goto 4, 3) := by decide +kernel
theorem d_Mo_within_14 : decode b_Mo_within 14 = .ok (.iconst 0, 1) := by decide +kernel
theorem d_Mo_within_15 : decode b_Mo_within 15 = .ok (.ireturn, 1) := by decide +kernel
theorem d_Mo_goes_0 : decode b_Mo_goes 0 = .ok (.aload_n 0, 1) := by decide +kernel
theorem d_Mo_goes_1 : decode b_Mo_goes 1 = .ok (.iload_n 1, 1) := by decide +kernel
theorem d_Mo_goes_2 : decode b_Mo_goes 2 = .ok (.ifCond .ne 7, 3) := by decide +kernel
theorem d_Mo_goes_5 : decode b_Mo_goes 5 = .ok (.iconst 1, 1) := by decide +kernel
theorem d_Mo_goes_6 : decode b_Mo_goes 6 = .ok (.goto 20, 3) := by decide +kernel
theorem d_Mo_goes_9 : decode b_Mo_goes 9 = .ok (.iload_n 2, 1) := by decide +kernel
theorem d_Mo_goes_10 : decode b_Mo_goes 10 = .ok (.ifCond .ne 7, 3) := by decide +kernel
theorem d_Mo_goes_13 : decode b_Mo_goes 13 = .ok (.iconst 2, 1) := by decide +kernel
theorem d_Mo_goes_14 : decode b_Mo_goes 14 = .ok (.goto 12, 3) := by decide +kernel
theorem d_Mo_goes_17 : decode b_Mo_goes 17 = .ok (.iload_n 3, 1) := by decide +kernel
theorem d_Mo_goes_18 : decode b_Mo_goes 18 = .ok (.ifCond .ne 7, 3) := by decide +kernel
theorem d_Mo_goes_21 : decode b_Mo_goes 21 = .ok (.iconst 3, 1) := by decide +kernel
theorem d_Mo_goes_22 : decode b_Mo_goes 22 = .ok (.goto 4, 3) := by decide +kernel
theorem d_Mo_goes_25 : decode b_Mo_goes 25 = .ok (.iconst 0, 1) := by decide +kernel
theorem d_Mo_goes_26 : decode b_Mo_goes 26 = .ok (.putfield 43, 3) := by decide +kernel
theorem d_Mo_goes_29 : decode b_Mo_goes 29 = .ok (.aload_n 0, 1) := by decide +kernel
theorem d_Mo_goes_30 : decode b_Mo_goes 30 = .ok (.getfield 43, 3) := by decide +kernel
theorem d_Mo_goes_33 : decode b_Mo_goes 33 = .ok (.ifCond .ne 7, 3) := by decide +kernel
theorem d_Mo_goes_36 : decode b_Mo_goes 36 = .ok (.iconst 1, 1) := by decide +kernel
theorem d_Mo_goes_37 : decode b_Mo_goes 37 = .ok (.goto 4, 3) := by decide +kernel
theorem d_Mo_goes_40 : decode b_Mo_goes 40 = .ok (.iconst 0, 1) := by decide +kernel
theorem d_Mo_goes_41 : decode b_Mo_goes 41 = .ok (.ireturn, 1) := by decide +kernel
theorem d_Mo_series_0 : decode b_Mo_series 0 = .ok (.aload_n 0, 1) := by decide +kernel
theorem d_Mo_series_1 : decode b_Mo_series 1 = .ok (.aload_n 0, 1) := by decide +kernel
theorem d_Mo_series_2 : decode b_Mo_series 2 = .ok (.getfield 47, 3) := by decide +kernel
theorem d_Mo_series_5 : decode b_Mo_series 5 = .ok (.bipush 10, 2) := by decide +kernel
theorem d_Mo_series_7 : decode b_Mo_series 7 = .ok (.if_icmp .ge 7, 3) := by decide +kernel
theorem d_Mo_series_10 : decode b_Mo_series 10 = .ok (.iconst 1, 1) := by decide +kernel
theorem d_Mo_series_11 : decode b_Mo_series 11 = .ok (.goto 4, 3) := by decide +kernel
theorem d_Mo_series_14 : decode b_Mo_series 14 = .ok (.iconst 0, 1) := by decide +kernel
theorem d_Mo_series_15 : decode b_Mo_series 15 = .ok (.iconst 1, 1) := by decide +kernel
theorem d_Mo_series_16 : decode b_Mo_series 16 = .ok (.iconst 1, 1) := by decide +kernel
theorem d_Mo_series_17 : decode b_Mo_series 17 = .ok (.invokevirtual 60, 3) := by decide +kernel
theorem d_Mo_series_20 : decode b_Mo_series 20 = .ok (.ifCond .ne 5, 3) := by decide +kernel
theorem d_Mo_series_23 : decode b_Mo_series 23 = .ok (.iconst 0, 1) := by decide +kernel
theorem d_Mo_series_24 : decode b_Mo_series 24 = .ok (.ireturn, 1) := by decide +kernel
theorem d_Mo_series_25 : decode b_Mo_series 25 = .ok (.aload_n 0, 1) := by decide +kernel
theorem d_Mo_series_26 : decode b_Mo_series 26 = .ok (.getfield 57, 3) := by decide +kernel
theorem d_Mo_series_29 : decode b_Mo_series 29 = .ok (.iconst 3, 1) := by decide +kernel
theorem d_Mo_series_30 : decode b_Mo_series 30 = .ok (.if_icmp .ge 5, 3) := by decide +kernel
theorem d_Mo_series_33 : decode b_Mo_series 33 = .ok (.iconst (-1), 1) := by decide +kernel
theorem d_Mo_series_34 : decode b_Mo_series 34 = .ok (.ireturn, 1) := by decide +kernel
theorem d_Mo_series_35 : decode b_Mo_series 35 = .ok (.iconst 0, 1) := by decide +kernel
theorem d_Mo_series_36 : decode b_Mo_series 36 = .ok (.istore_n 1, 1) := by decide +kernel
theorem d_Mo_series_37 : decode b_Mo_series 37 = .ok (.iconst 0, 1) := by decide +kernel
theorem d_Mo_series_38 : decode b_Mo_series 38 = .ok (.istore_n 2, 1) := by decide +kernel
theorem d_Mo_series_39 : decode b_Mo_series 39 = .ok (.iload_n 2, 1) := by decide +kernel
theorem d_Mo_series_40 : decode b_Mo_series 40 = .ok (.aload_n 0, 1) := by decide +kernel
theorem d_Mo_series_41 : decode b_Mo_series 41 = .ok (.getfield 57, 3) := by decide +kernel
theorem d_Mo_series_44 : decode b_Mo_series 44 = .ok (.if_icmp .ge 18, 3) := by decide +kernel
theorem d_Mo_series_47 : decode b_Mo_series 47 = .ok (.iload_n 1, 1) := by decide +kernel
theorem d_Mo_series_48 : decode b_Mo_series 48 = .ok (.aload_n 0, 1) := by decide +kernel
theorem d_Mo_series_49 : decode b_Mo_series 49 = .ok (.getfield 7, 3) := by decide +kernel
theorem d_Mo_series_52 : decode b_Mo_series 52 = .ok (.iload_n 2, 1) := by decide +kernel
theorem d_Mo_series_53 : decode b_Mo_series 53 = .ok (.iaload, 1) := by decide +kernel
theorem d_Mo_series_54 : decode b_Mo_series 54 = .ok (.iadd, 1) := by decide +kernel
theorem d_Mo_series_55 : decode b_Mo_series 55 = .ok (.istore_n 1, 1) := by decide +kernel
theorem d_Mo_series_56 : decode b_Mo_series 56 = .ok (.iinc 2 1, 3) := by decide +kernel
theorem d_Mo_series_59 : decode b_Mo_series 59 = .ok (.goto (-20), 3) := by decide +kernel
theorem d_Mo_series_62 : decode b_Mo_series 62 = .ok (.iconst 0, 1) := by decide +kernel
theorem d_Mo_series_63 : decode b_Mo_series 63 = .ok (.istore_n 2, 1) := by decide +kernel
theorem d_Mo_series_64 : decode b_Mo_series 64 = .ok (.iload_n 2, 1) := by decide +kernel
theorem d_Mo_series_65 : decode b_Mo_series 65 = .ok (.aload_n 0, 1) := by decide +kernel
theorem d_Mo_series_66 : decode b_Mo_series 66 = .ok (.getfield 57, 3) := by decide +kernel
theorem d_Mo_series_69 : decode b_Mo_series 69 = .ok (.if_icmp .ge 54, 3) := by decide +kernel
theorem d_Mo_series_72 : decode b_Mo_series 72 = .ok (.bipush 100, 2) := by decide +kernel
theorem d_Mo_series_74 : decode b_Mo_series 74 = .ok (.aload_n 0, 1) := by decide +kernel
theorem d_Mo_series_75 : decode b_Mo_series 75 = .ok (.getfield 7, 3) := by decide +kernel
theorem d_Mo_series_78 : decode b_Mo_series 78 = .ok (.iload_n 2, 1) := by decide +kernel
theorem d_Mo_series_79 : decode b_Mo_series 79 = .ok (.iaload, 1) := by decide +kernel
theorem d_Mo_series_80 : decode b_Mo_series 80 = .ok (.imul, 1) := by decide +kernel
theorem d_Mo_series_81 : decode b_Mo_series 81 = .ok (.aload_n 0, 1) := by decide +kernel
theorem d_Mo_series_82 : decode b_Mo_series 82 = .ok (.getfield 57, 3) := by decide +kernel
theorem d_Mo_series_85 : decode b_Mo_series 85 = .ok (.imul, 1) := by decide +kernel
theorem d_Mo_series_86 : decode b_Mo_series 86 = .ok (.iload_n 1, 1) := by decide +kernel
theorem d_Mo_series_87 : decode b_Mo_series 87 = .ok (.idiv, 1) := by decide +kernel
theorem d_Mo_series_88 : decode b_Mo_series 88 = .ok (.istore_n 3, 1) := by decide +kernel
theorem d_Mo_series_89 : decode b_Mo_series 89 = .ok (.aload_n 0, 1) := by decide +kernel
theorem d_Mo_series_90 : decode b_Mo_series 90 = .ok (.getfield 16, 3) := by decide +kernel
theorem d_Mo_series_93 : decode b_Mo_series 93 = .ok (.bipush 30, 2) := by decide +kernel
theorem d_Mo_series_95 : decode b_Mo_series 95 = .ok (.aload_n 0, 1) := by decide +kernel
theorem d_Mo_series_96 : decode b_Mo_series 96 = .ok (.getfield 47, 3) := by decide +kernel
theorem d_Mo_series_99 : decode b_Mo_series 99 = .ok (.imul, 1) := by decide +kernel
theorem d_Mo_series_100 : decode b_Mo_series 100 = .ok (.iload_n 2, 1) := by decide +kernel
theorem d_Mo_series_101 : decode b_Mo_series 101 = .ok (.iadd, 1) := by decide +kernel
theorem d_Mo_series_102 : decode b_Mo_series 102 = .ok (.iload_n 3, 1) := by decide +kernel
theorem d_Mo_series_103 : decode b_Mo_series 103 = .ok (.sipush 400, 3) := by decide +kernel
theorem d_Mo_series_106 : decode b_Mo_series 106 = .ok (.if_icmp .le 9, 3) := by decide +kernel
theorem d_Mo_series_109 : decode b_Mo_series 109 = .ok (.sipush 400, 3) := by decide +kernel
theorem d_Mo_series_112 : decode b_Mo_series 112 = .ok (.goto 4, 3) := by decide +kernel
theorem d_Mo_series_115 : decode b_Mo_series 115 = .ok (.iload_n 3, 1) := by decide +kernel
theorem d_Mo_series_116 : decode b_Mo_series 116 = .ok (.iastore, 1) := by decide +kernel
theorem d_Mo_series_117 : decode b_Mo_series 117 = .ok (.iinc 2 1, 3) := by decide +kernel
theorem d_Mo_series_120 : decode b_Mo_series 120 = .ok (.goto (-56), 3) := by decide +kernel
theorem d_Mo_series_123 : decode b_Mo_series 123 = .ok (.aload_n 0, 1) := by decide +kernel
theorem d_Mo_series_124 : decode b_Mo_series 124 = .ok (.getfield 13, 3) := by decide +kernel
theorem d_Mo_series_127 : decode b_Mo_series 127 = .ok (.aload_n 0, 1) := by decide +kernel
theorem d_Mo_series_128 : decode b_Mo_series 128 = .ok (.getfield 47, 3) := by decide +kernel
theorem d_Mo_series_131 : decode b_Mo_series 131 = .ok (.aload_n 0, 1) := by decide +kernel
theorem d_Mo_series_132 : decode b_Mo_series 132 = .ok (.getfield 57, 3) := by decide +kernel
theorem d_Mo_series_135 : decode b_Mo_series 135 = .ok (.iastore, 1) := by decide +kernel
theorem d_Mo_series_136 : decode b_Mo_series 136 = .ok (.aload_n 0, 1) := by decide +kernel
theorem d_Mo_series_137 : decode b_Mo_series 137 = .ok (.iconst 0, 1) := by decide +kernel
theorem d_Mo_series_138 : decode b_Mo_series 138 = .ok (.putfield 57, 3) := by decide +kernel
theorem d_Mo_series_141 : decode b_Mo_series 141 = .ok (.aload_n 0, 1) := by decide +kernel
theorem d_Mo_series_142 : decode b_Mo_series 142 = .ok (.dup, 1) := by decide +kernel
theorem d_Mo_series_143 : decode b_Mo_series 143 = .ok (.getfield 47, 3) := by decide +kernel
theorem d_Mo_series_146 : decode b_Mo_series 146 = .ok (.iconst 1, 1) := by decide +kernel
theorem d_Mo_series_147 : decode b_Mo_series 147 = .ok (.iadd, 1) := by decide +kernel
theorem d_Mo_series_148 : decode b_Mo_series 148 = .ok (.putfield 47, 3) := by decide +kernel
theorem d_Mo_series_151 : decode b_Mo_series 151 = .ok (.aload_n 0, 1) := by decide +kernel
theorem d_Mo_series_152 : decode b_Mo_series 152 = .ok (.getfield 47, 3) := by decide +kernel
theorem d_Mo_series_155 : decode b_Mo_series 155 = .ok (.iconst 1, 1) := by decide +kernel
theorem d_Mo_series_156 : decode b_Mo_series 156 = .ok (.isub, 1) := by decide +kernel
theorem d_Mo_series_157 : decode b_Mo_series 157 = .ok (.ireturn, 1) := by decide +kernel
theorem d_Mo_evened_0 : decode b_Mo_evened 0 = .ok (.aload_n 0, 1) := by decide +kernel
theorem d_Mo_evened_1 : decode b_Mo_evened 1 = .ok (.iload_n 1, 1) := by decide +kernel
theorem d_Mo_evened_2 : decode b_Mo_evened 2 = .ok (.invokevirtual 64, 3) := by decide +kernel
theorem d_Mo_evened_5 : decode b_Mo_evened 5 = .ok (.istore_n 3, 1) := by decide +kernel
theorem d_Mo_evened_6 : decode b_Mo_evened 6 = .ok (.aload_n 0, 1) := by decide +kernel
theorem d_Mo_evened_7 : decode b_Mo_evened 7 = .ok (.iload_n 3, 1) := by decide +kernel
theorem d_Mo_evened_8 : decode b_Mo_evened 8 = .ok (.ifCond .eq 31, 3) := by decide +kernel
theorem d_Mo_evened_11 : decode b_Mo_evened 11 = .ok (.iload_n 2, 1) := by decide +kernel
theorem d_Mo_evened_12 : decode b_Mo_evened 12 = .ok (.iconst (-1), 1) := by decide +kernel
theorem d_Mo_evened_13 : decode b_Mo_evened 13 = .ok (.iload_n 3, 1) := by decide +kernel
theorem d_Mo_evened_14 : decode b_Mo_evened 14 = .ok (.ifCond .eq 14, 3) := by decide +kernel
theorem d_Mo_evened_17 : decode b_Mo_evened 17 = .ok (.aload_n 0, 1) := by decide +kernel
theorem d_Mo_evened_18 : decode b_Mo_evened 18 = .ok (.getfield 13, 3) := by decide +kernel
theorem d_Mo_evened_21 : decode b_Mo_evened 21 = .ok (.iload_n 1, 1) := by decide +kernel
theorem d_Mo_evened_22 : decode b_Mo_evened 22 = .ok (.iaload, 1) := by decide +kernel
theorem d_Mo_evened_23 : decode b_Mo_evened 23 = .ok (.iconst 1, 1) := by decide +kernel
theorem d_Mo_evened_24 : decode b_Mo_evened 24 = .ok (.isub, 1) := by decide +kernel
theorem d_Mo_evened_25 : decode b_Mo_evened 25 = .ok (.goto 4, 3) := by decide +kernel
theorem d_Mo_evened_28 : decode b_Mo_evened 28 = .ok (.iconst 0, 1) := by decide +kernel
theorem d_Mo_evened_29 : decode b_Mo_evened 29 = .ok (.invokestatic 50, 3) := by decide +kernel
theorem d_Mo_evened_32 : decode b_Mo_evened 32 = .ok (.ifCond .eq 7, 3) := by decide +kernel
theorem d_Mo_evened_35 : decode b_Mo_evened 35 = .ok (.iconst 1, 1) := by decide +kernel
theorem d_Mo_evened_36 : decode b_Mo_evened 36 = .ok (.goto 4, 3) := by decide +kernel
theorem d_Mo_evened_39 : decode b_Mo_evened 39 = .ok (.iconst 0, 1) := by decide +kernel
theorem d_Mo_evened_40 : decode b_Mo_evened 40 = .ok (.iconst 1, 1) := by decide +kernel
theorem d_Mo_evened_41 : decode b_Mo_evened 41 = .ok (.iconst 1, 1) := by decide +kernel
theorem d_Mo_evened_42 : decode b_Mo_evened 42 = .ok (.invokevirtual 60, 3) := by decide +kernel
theorem d_Mo_evened_45 : decode b_Mo_evened 45 = .ok (.ifCond .ne 5, 3) := by decide +kernel
theorem d_Mo_evened_48 : decode b_Mo_evened 48 = .ok (.iconst 0, 1) := by decide +kernel
theorem d_Mo_evened_49 : decode b_Mo_evened 49 = .ok (.ireturn, 1) := by decide +kernel
theorem d_Mo_evened_50 : decode b_Mo_evened 50 = .ok (.iload_n 2, 1) := by decide +kernel
theorem d_Mo_evened_51 : decode b_Mo_evened 51 = .ok (.iconst (-1), 1) := by decide +kernel
theorem d_Mo_evened_52 : decode b_Mo_evened 52 = .ok (.if_icmp .ne 12, 3) := by decide +kernel
theorem d_Mo_evened_55 : decode b_Mo_evened 55 = .ok (.aload_n 0, 1) := by decide +kernel
theorem d_Mo_evened_56 : decode b_Mo_evened 56 = .ok (.getfield 13, 3) := by decide +kernel
theorem d_Mo_evened_59 : decode b_Mo_evened 59 = .ok (.iload_n 1, 1) := by decide +kernel
theorem d_Mo_evened_60 : decode b_Mo_evened 60 = .ok (.iaload, 1) := by decide +kernel
theorem d_Mo_evened_61 : decode b_Mo_evened 61 = .ok (.goto 9, 3) := by decide +kernel
theorem d_Mo_evened_64 : decode b_Mo_evened 64 = .ok (.aload_n 0, 1) := by decide +kernel
theorem d_Mo_evened_65 : decode b_Mo_evened 65 = .ok (.iload_n 1, 1) := by decide +kernel
theorem d_Mo_evened_66 : decode b_Mo_evened 66 = .ok (.iload_n 2, 1) := by decide +kernel
theorem d_Mo_evened_67 : decode b_Mo_evened 67 = .ok (.invokevirtual 68, 3) := by decide +kernel
theorem d_Mo_evened_70 : decode b_Mo_evened 70 = .ok (.ireturn, 1) := by decide +kernel
theorem d_Mo_isSeries_0 : decode b_Mo_isSeries 0 = .ok (.iload_n 1, 1) := by decide +kernel
theorem d_Mo_isSeries_1 : decode b_Mo_isSeries 1 = .ok (.iconst 0, 1) := by decide +kernel
theorem d_Mo_isSeries_2 : decode b_Mo_isSeries 2 = .ok (.aload_n 0, 1) := by decide +kernel
theorem d_Mo_isSeries_3 : decode b_Mo_isSeries 3 = .ok (.getfield 47, 3) := by decide +kernel
theorem d_Mo_isSeries_6 : decode b_Mo_isSeries 6 = .ok (.iconst 1, 1) := by decide +kernel
theorem d_Mo_isSeries_7 : decode b_Mo_isSeries 7 = .ok (.isub, 1) := by decide +kernel
theorem d_Mo_isSeries_8 : decode b_Mo_isSeries 8 = .ok (.invokestatic 50, 3) := by decide +kernel
theorem d_Mo_isSeries_11 : decode b_Mo_isSeries 11 = .ok (.ireturn, 1) := by decide +kernel
theorem d_Mo_even_0 : decode b_Mo_even 0 = .ok (.aload_n 0, 1) := by decide +kernel
theorem d_Mo_even_1 : decode b_Mo_even 1 = .ok (.getfield 16, 3) := by decide +kernel
theorem d_Mo_even_4 : decode b_Mo_even 4 = .ok (.bipush 30, 2) := by decide +kernel
theorem d_Mo_even_6 : decode b_Mo_even 6 = .ok (.iload_n 1, 1) := by decide +kernel
theorem d_Mo_even_7 : decode b_Mo_even 7 = .ok (.imul, 1) := by decide +kernel
theorem d_Mo_even_8 : decode b_Mo_even 8 = .ok (.iload_n 2, 1) := by decide +kernel
theorem d_Mo_even_9 : decode b_Mo_even 9 = .ok (.iadd, 1) := by decide +kernel
theorem d_Mo_even_10 : decode b_Mo_even 10 = .ok (.iaload, 1) := by decide +kernel
theorem d_Mo_even_11 : decode b_Mo_even 11 = .ok (.ireturn, 1) := by decide +kernel
theorem d_Mo_place_0 : decode b_Mo_place 0 = .ok (.aload_n 0, 1) := by decide +kernel
theorem d_Mo_place_1 : decode b_Mo_place 1 = .ok (.aload_n 0, 1) := by decide +kernel
theorem d_Mo_place_2 : decode b_Mo_place 2 = .ok (.iload_n 1, 1) := by decide +kernel
theorem d_Mo_place_3 : decode b_Mo_place 3 = .ok (.invokevirtual 64, 3) := by decide +kernel
theorem d_Mo_place_6 : decode b_Mo_place 6 = .ok (.iload_n 2, 1) := by decide +kernel
theorem d_Mo_place_7 : decode b_Mo_place 7 = .ok (.iconst (-1), 1) := by decide +kernel
theorem d_Mo_place_8 : decode b_Mo_place 8 = .ok (.sipush 500, 3) := by decide +kernel
theorem d_Mo_place_11 : decode b_Mo_place 11 = .ok (.invokestatic 50, 3) := by decide +kernel
theorem d_Mo_place_14 : decode b_Mo_place 14 = .ok (.iconst 1, 1) := by decide +kernel
theorem d_Mo_place_15 : decode b_Mo_place 15 = .ok (.invokevirtual 60, 3) := by decide +kernel
theorem d_Mo_place_18 : decode b_Mo_place 18 = .ok (.ifCond .ne 5, 3) := by decide +kernel
theorem d_Mo_place_21 : decode b_Mo_place 21 = .ok (.iconst 0, 1) := by decide +kernel
theorem d_Mo_place_22 : decode b_Mo_place 22 = .ok (.ireturn, 1) := by decide +kernel
theorem d_Mo_place_23 : decode b_Mo_place 23 = .ok (.aload_n 0, 1) := by decide +kernel
theorem d_Mo_place_24 : decode b_Mo_place 24 = .ok (.getfield 19, 3) := by decide +kernel
theorem d_Mo_place_27 : decode b_Mo_place 27 = .ok (.iload_n 1, 1) := by decide +kernel
theorem d_Mo_place_28 : decode b_Mo_place 28 = .ok (.iaload, 1) := by decide +kernel
theorem d_Mo_place_29 : decode b_Mo_place 29 = .ok (.istore_n 3, 1) := by decide +kernel
theorem d_Mo_place_30 : decode b_Mo_place 30 = .ok (.aload_n 0, 1) := by decide +kernel
theorem d_Mo_place_31 : decode b_Mo_place 31 = .ok (.getfield 19, 3) := by decide +kernel
theorem d_Mo_place_34 : decode b_Mo_place 34 = .ok (.iload_n 1, 1) := by decide +kernel
theorem d_Mo_place_35 : decode b_Mo_place 35 = .ok (.iload_n 2, 1) := by decide +kernel
theorem d_Mo_place_36 : decode b_Mo_place 36 = .ok (.iastore, 1) := by decide +kernel
theorem d_Mo_place_37 : decode b_Mo_place 37 = .ok (.iload_n 3, 1) := by decide +kernel
theorem d_Mo_place_38 : decode b_Mo_place 38 = .ok (.ireturn, 1) := by decide +kernel
theorem d_Mo_master_0 : decode b_Mo_master 0 = .ok (.aload_n 0, 1) := by decide +kernel
theorem d_Mo_master_1 : decode b_Mo_master 1 = .ok (.aload_n 0, 1) := by decide +kernel
theorem d_Mo_master_2 : decode b_Mo_master 2 = .ok (.getfield 54, 3) := by decide +kernel
theorem d_Mo_master_5 : decode b_Mo_master 5 = .ok (.bipush 8, 2) := by decide +kernel
theorem d_Mo_master_7 : decode b_Mo_master 7 = .ok (.if_icmp .ge 7, 3) := by decide +kernel
theorem d_Mo_master_10 : decode b_Mo_master 10 = .ok (.iconst 1, 1) := by decide +kernel
theorem d_Mo_master_11 : decode b_Mo_master 11 = .ok (.goto 4, 3) := by decide +kernel
theorem d_Mo_master_14 : decode b_Mo_master 14 = .ok (.iconst 0, 1) := by decide +kernel
theorem d_Mo_master_15 : decode b_Mo_master 15 = .ok (.iload_n 1, 1) := by decide +kernel
theorem d_Mo_master_16 : decode b_Mo_master 16 = .ok (.iconst 0, 1) := by decide +kernel
theorem d_Mo_master_17 : decode b_Mo_master 17 = .ok (.sipush 1023, 3) := by decide +kernel
theorem d_Mo_master_20 : decode b_Mo_master 20 = .ok (.invokestatic 50, 3) := by decide +kernel
theorem d_Mo_master_23 : decode b_Mo_master 23 = .ok (.iconst 1, 1) := by decide +kernel
theorem d_Mo_master_24 : decode b_Mo_master 24 = .ok (.invokevirtual 60, 3) := by decide +kernel
theorem d_Mo_master_27 : decode b_Mo_master 27 = .ok (.ifCond .ne 5, 3) := by decide +kernel
theorem d_Mo_master_30 : decode b_Mo_master 30 = .ok (.iconst 0, 1) := by decide +kernel
theorem d_Mo_master_31 : decode b_Mo_master 31 = .ok (.ireturn, 1) := by decide +kernel
theorem d_Mo_master_32 : decode b_Mo_master 32 = .ok (.sipush 9999, 3) := by decide +kernel
theorem d_Mo_master_35 : decode b_Mo_master 35 = .ok (.istore_n 2, 1) := by decide +kernel
theorem d_Mo_master_36 : decode b_Mo_master 36 = .ok (.iconst (-1), 1) := by decide +kernel
theorem d_Mo_master_37 : decode b_Mo_master 37 = .ok (.istore_n 3, 1) := by decide +kernel
theorem d_Mo_master_38 : decode b_Mo_master 38 = .ok (.iconst 0, 1) := by decide +kernel
theorem d_Mo_master_39 : decode b_Mo_master 39 = .ok (.istore 4, 2) := by decide +kernel
theorem d_Mo_master_41 : decode b_Mo_master 41 = .ok (.iload 4, 2) := by decide +kernel
theorem d_Mo_master_43 : decode b_Mo_master 43 = .ok (.bipush 10, 2) := by decide +kernel
theorem d_Mo_master_45 : decode b_Mo_master 45 = .ok (.if_icmp .ge 153, 3) := by decide +kernel
theorem d_Mo_master_48 : decode b_Mo_master 48 = .ok (.iload_n 1, 1) := by decide +kernel
theorem d_Mo_master_49 : decode b_Mo_master 49 = .ok (.iload 4, 2) := by decide +kernel
theorem d_Mo_master_51 : decode b_Mo_master 51 = .ok (.ishr, 1) := by decide +kernel
theorem d_Mo_master_52 : decode b_Mo_master 52 = .ok (.iconst 1, 1) := by decide +kernel
theorem d_Mo_master_53 : decode b_Mo_master 53 = .ok (.iand, 1) := by decide +kernel
theorem d_Mo_master_54 : decode b_Mo_master 54 = .ok (.iconst 1, 1) := by decide +kernel
theorem d_Mo_master_55 : decode b_Mo_master 55 = .ok (.if_icmp .ne 27, 3) := by decide +kernel
theorem d_Mo_master_58 : decode b_Mo_master 58 = .ok (.iload 4, 2) := by decide +kernel
theorem d_Mo_master_60 : decode b_Mo_master 60 = .ok (.aload_n 0, 1) := by decide +kernel
theorem d_Mo_master_61 : decode b_Mo_master 61 = .ok (.getfield 47, 3) := by decide +kernel
theorem d_Mo_master_64 : decode b_Mo_master 64 = .ok (.if_icmp .ge 18, 3) := by decide +kernel
theorem d_Mo_master_67 : decode b_Mo_master 67 = .ok (.aload_n 0, 1) := by decide +kernel
theorem d_Mo_master_68 : decode b_Mo_master 68 = .ok (.getfield 19, 3) := by decide +kernel
theorem d_Mo_master_71 : decode b_Mo_master 71 = .ok (.iload 4, 2) := by decide +kernel
theorem d_Mo_master_73 : decode b_Mo_master 73 = .ok (.iaload, 1) := by decide +kernel
theorem d_Mo_master_74 : decode b_Mo_master 74 = .ok (.iconst (-1), 1) := by decide +kernel
theorem d_Mo_master_75 : decode b_Mo_master 75 = .ok (.if_icmp .eq 7, 3) := by decide +kernel
theorem d_Mo_master_78 : decode b_Mo_master 78 = .ok (.iconst 1, 1) := by decide +kernel
theorem d_Mo_master_79 : decode b_Mo_master 79 = .ok (.goto 4, 3) := by decide +kernel
theorem d_Mo_master_82 : decode b_Mo_master 82 = .ok (.iconst 0, 1) := by decide +kernel
theorem d_Mo_master_83 : decode b_Mo_master 83 = .ok (.istore 5, 2) := by decide +kernel
theorem d_Mo_master_85 : decode b_Mo_master 85 = .ok (.aload_n 0, 1) := by decide +kernel
theorem d_Mo_master_86 : decode b_Mo_master 86 = .ok (.getfield 22, 3) := by decide +kernel
theorem d_Mo_master_89 : decode b_Mo_master 89 = .ok (.bipush 10, 2) := by decide +kernel
theorem d_Mo_master_91 : decode b_Mo_master 91 = .ok (.aload_n 0, 1) := by decide +kernel
theorem d_Mo_master_92 : decode b_Mo_master 92 = .ok (.getfield 54, 3) := by decide +kernel
theorem d_Mo_master_95 : decode b_Mo_master 95 = .ok (.imul, 1) := by decide +kernel
theorem d_Mo_master_96 : decode b_Mo_master 96 = .ok (.iload 4, 2) := by decide +kernel
theorem d_Mo_master_98 : decode b_Mo_master 98 = .ok (.iadd, 1) := by decide +kernel
theorem d_Mo_master_99 : decode b_Mo_master 99 = .ok (.iload 5, 2) := by decide +kernel
theorem d_Mo_master_101 : decode b_Mo_master 101 = .ok (.ifCond .eq 13, 3) := by decide +kernel
theorem d_Mo_master_104 : decode b_Mo_master 104 = .ok (.aload_n 0, 1) := by decide +kernel
theorem d_Mo_master_105 : decode b_Mo_master 105 = .ok (.getfield 19, 3) := by decide +kernel
theorem d_Mo_master_108 : decode b_Mo_master 108 = .ok (.iload 4, 2) := by decide +kernel
theorem d_Mo_master_110 : decode b_Mo_master 110 = .ok (.iaload, 1) := by decide +kernel
theorem d_Mo_master_111 : decode b_Mo_master 111 = .ok (.goto 4, 3) := by decide +kernel
theorem d_Mo_master_114 : decode b_Mo_master 114 = .ok (.iconst (-1), 1) := by decide +kernel
theorem d_Mo_master_115 : decode b_Mo_master 115 = .ok (.iastore, 1) := by decide +kernel
theorem d_Mo_master_116 : decode b_Mo_master 116 = .ok (.iload 5, 2) := by decide +kernel
theorem d_Mo_master_118 : decode b_Mo_master 118 = .ok (.ifCond .eq 24, 3) := by decide +kernel
theorem d_Mo_master_121 : decode b_Mo_master 121 = .ok (.aload_n 0, 1) := by decide +kernel
theorem d_Mo_master_122 : decode b_Mo_master 122 = .ok (.getfield 19, 3) := by decide +kernel
theorem d_Mo_master_125 : decode b_Mo_master 125 = .ok (.iload 4, 2) := by decide +kernel
theorem d_Mo_master_127 : decode b_Mo_master 127 = .ok (.iaload, 1) := by decide +kernel
theorem d_Mo_master_128 : decode b_Mo_master 128 = .ok (.iload_n 2, 1) := by decide +kernel
theorem d_Mo_master_129 : decode b_Mo_master 129 = .ok (.if_icmp .ge 13, 3) := by decide +kernel
theorem d_Mo_master_132 : decode b_Mo_master 132 = .ok (.aload_n 0, 1) := by decide +kernel
theorem d_Mo_master_133 : decode b_Mo_master 133 = .ok (.getfield 19, 3) := by decide +kernel
theorem d_Mo_master_136 : decode b_Mo_master 136 = .ok (.iload 4, 2) := by decide +kernel
theorem d_Mo_master_138 : decode b_Mo_master 138 = .ok (.iaload, 1) := by decide +kernel
theorem d_Mo_master_139 : decode b_Mo_master 139 = .ok (.goto 4, 3) := by decide +kernel
theorem d_Mo_master_142 : decode b_Mo_master 142 = .ok (.iload_n 2, 1) := by decide +kernel
theorem d_Mo_master_143 : decode b_Mo_master 143 = .ok (.istore_n 2, 1) := by decide +kernel
theorem d_Mo_master_144 : decode b_Mo_master 144 = .ok (.iload 5, 2) := by decide +kernel
theorem d_Mo_master_146 : decode b_Mo_master 146 = .ok (.ifCond .eq 44, 3) := by decide +kernel
theorem d_Mo_master_149 : decode b_Mo_master 149 = .ok (.aload_n 0, 1) := by decide +kernel
theorem d_Mo_master_150 : decode b_Mo_master 150 = .ok (.getfield 19, 3) := by decide +kernel
theorem d_Mo_master_153 : decode b_Mo_master 153 = .ok (.iload 4, 2) := by decide +kernel

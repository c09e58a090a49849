theorem d_Mo_measure_42 : decode b_Mo_measure 42 = .ok (.istore 6, 2) := by decide +kernel
theorem d_Mo_measure_44 : decode b_Mo_measure 44 = .ok (.iload 6, 2) := by decide +kernel
theorem d_Mo_measure_46 : decode b_Mo_measure 46 = .ok (.ifCond .eq 17, 3) := by decide +kernel
theorem d_Mo_measure_49 : decode b_Mo_measure 49 = .ok (.aload_n 0, 1) := by decide +kernel
theorem d_Mo_measure_50 : decode b_Mo_measure 50 = .ok (.iload_n 2, 1) := by decide +kernel
theorem d_Mo_measure_51 : decode b_Mo_measure 51 = .ok (.iload_n 3, 1) := by decide +kernel
theorem d_Mo_measure_52 : decode b_Mo_measure 52 = .ok (.iload 5, 2) := by decide +kernel
theorem d_Mo_measure_54 : decode b_Mo_measure 54 = .ok (.iadd, 1) := by decide +kernel
theorem d_Mo_measure_55 : decode b_Mo_measure 55 = .ok (.iload 4, 2) := by decide +kernel
theorem d_Mo_measure_57 : decode b_Mo_measure 57 = .ok (.invokevirtual 82, 3) := by decide +kernel
theorem d_Mo_measure_60 : decode b_Mo_measure 60 = .ok (.goto 4, 3) := by decide +kernel
theorem d_Mo_measure_63 : decode b_Mo_measure 63 = .ok (.iconst (-1), 1) := by decide +kernel
theorem d_Mo_measure_64 : decode b_Mo_measure 64 = .ok (.istore 7, 2) := by decide +kernel
theorem d_Mo_measure_66 : decode b_Mo_measure 66 = .ok (.iload 7, 2) := by decide +kernel
theorem d_Mo_measure_68 : decode b_Mo_measure 68 = .ok (.iconst (-1), 1) := by decide +kernel
theorem d_Mo_measure_69 : decode b_Mo_measure 69 = .ok (.if_icmp .eq 51, 3) := by decide +kernel
theorem d_Mo_measure_72 : decode b_Mo_measure 72 = .ok (.iload 7, 2) := by decide +kernel
theorem d_Mo_measure_74 : decode b_Mo_measure 74 = .ok (.aload_n 0, 1) := by decide +kernel
theorem d_Mo_measure_75 : decode b_Mo_measure 75 = .ok (.iload_n 1, 1) := by decide +kernel
theorem d_Mo_measure_76 : decode b_Mo_measure 76 = .ok (.iload 5, 2) := by decide +kernel
theorem d_Mo_measure_78 : decode b_Mo_measure 78 = .ok (.invokevirtual 68, 3) := by decide +kernel
theorem d_Mo_measure_81 : decode b_Mo_measure 81 = .ok (.isub, 1) := by decide +kernel
theorem d_Mo_measure_82 : decode b_Mo_measure 82 = .ok (.istore 8, 2) := by decide +kernel
theorem d_Mo_measure_84 : decode b_Mo_measure 84 = .ok (.aload_n 0, 1) := by decide +kernel
theorem d_Mo_measure_85 : decode b_Mo_measure 85 = .ok (.iload 8, 2) := by decide +kernel
theorem d_Mo_measure_87 : decode b_Mo_measure 87 = .ok (.ifCond .ge 13, 3) := by decide +kernel
theorem d_Mo_measure_90 : decode b_Mo_measure 90 = .ok (.aload_n 0, 1) := by decide +kernel
theorem d_Mo_measure_91 : decode b_Mo_measure 91 = .ok (.getfield 89, 3) := by decide +kernel
theorem d_Mo_measure_94 : decode b_Mo_measure 94 = .ok (.iload 8, 2) := by decide +kernel
theorem d_Mo_measure_96 : decode b_Mo_measure 96 = .ok (.isub, 1) := by decide +kernel
theorem d_Mo_measure_97 : decode b_Mo_measure 97 = .ok (.goto 10, 3) := by decide +kernel
theorem d_Mo_measure_100 : decode b_Mo_measure 100 = .ok (.aload_n 0, 1) := by decide +kernel
theorem d_Mo_measure_101 : decode b_Mo_measure 101 = .ok (.getfield 89, 3) := by decide +kernel
theorem d_Mo_measure_104 : decode b_Mo_measure 104 = .ok (.iload 8, 2) := by decide +kernel
theorem d_Mo_measure_106 : decode b_Mo_measure 106 = .ok (.iadd, 1) := by decide +kernel
theorem d_Mo_measure_107 : decode b_Mo_measure 107 = .ok (.putfield 89, 3) := by decide +kernel
theorem d_Mo_measure_110 : decode b_Mo_measure 110 = .ok (.aload_n 0, 1) := by decide +kernel
theorem d_Mo_measure_111 : decode b_Mo_measure 111 = .ok (.dup, 1) := by decide +kernel
theorem d_Mo_measure_112 : decode b_Mo_measure 112 = .ok (.getfield 92, 3) := by decide +kernel
theorem d_Mo_measure_115 : decode b_Mo_measure 115 = .ok (.iconst 1, 1) := by decide +kernel
theorem d_Mo_measure_116 : decode b_Mo_measure 116 = .ok (.iadd, 1) := by decide +kernel
theorem d_Mo_measure_117 : decode b_Mo_measure 117 = .ok (.putfield 92, 3) := by decide +kernel
theorem d_Mo_measure_120 : decode b_Mo_measure 120 = .ok (.iinc 5 1, 3) := by decide +kernel
theorem d_Mo_measure_123 : decode b_Mo_measure 123 = .ok (.goto (-110), 3) := by decide +kernel
theorem d_Mo_measure_126 : decode b_Mo_measure 126 = .ok (.return_, 1) := by decide +kernel
theorem d_Mo_distance_0 : decode b_Mo_distance 0 = .ok (.aload_n 0, 1) := by decide +kernel
theorem d_Mo_distance_1 : decode b_Mo_distance 1 = .ok (.aload_n 0, 1) := by decide +kernel
theorem d_Mo_distance_2 : decode b_Mo_distance 2 = .ok (.iload_n 1, 1) := by decide +kernel
theorem d_Mo_distance_3 : decode b_Mo_distance 3 = .ok (.invokevirtual 64, 3) := by decide +kernel
theorem d_Mo_distance_6 : decode b_Mo_distance 6 = .ok (.ifCond .eq 25, 3) := by decide +kernel
theorem d_Mo_distance_9 : decode b_Mo_distance 9 = .ok (.aload_n 0, 1) := by decide +kernel
theorem d_Mo_distance_10 : decode b_Mo_distance 10 = .ok (.iload_n 2, 1) := by decide +kernel
theorem d_Mo_distance_11 : decode b_Mo_distance 11 = .ok (.invokevirtual 75, 3) := by decide +kernel
theorem d_Mo_distance_14 : decode b_Mo_distance 14 = .ok (.ifCond .eq 17, 3) := by decide +kernel
theorem d_Mo_distance_17 : decode b_Mo_distance 17 = .ok (.iload 4, 2) := by decide +kernel
theorem d_Mo_distance_19 : decode b_Mo_distance 19 = .ok (.iconst 0, 1) := by decide +kernel
theorem d_Mo_distance_20 : decode b_Mo_distance 20 = .ok (.iconst 1, 1) := by decide +kernel
theorem d_Mo_distance_21 : decode b_Mo_distance 21 = .ok (.invokestatic 50, 3) := by decide +kernel
theorem d_Mo_distance_24 : decode b_Mo_distance 24 = .ok (.ifCond .eq 7, 3) := by decide +kernel
theorem d_Mo_distance_27 : decode b_Mo_distance 27 = .ok (.iconst 1, 1) := by decide +kernel
theorem d_Mo_distance_28 : decode b_Mo_distance 28 = .ok (.goto 4, 3) := by decide +kernel
theorem d_Mo_distance_31 : decode b_Mo_distance 31 = .ok (.iconst 0, 1) := by decide +kernel
theorem d_Mo_distance_32 : decode b_Mo_distance 32 = .ok (.iconst 1, 1) := by decide +kernel
theorem d_Mo_distance_33 : decode b_Mo_distance 33 = .ok (.iconst 1, 1) := by decide +kernel
theorem d_Mo_distance_34 : decode b_Mo_distance 34 = .ok (.invokevirtual 60, 3) := by decide +kernel
theorem d_Mo_distance_37 : decode b_Mo_distance 37 = .ok (.ifCond .ne 5, 3) := by decide +kernel
theorem d_Mo_distance_40 : decode b_Mo_distance 40 = .ok (.iconst 0, 1) := by decide +kernel
theorem d_Mo_distance_41 : decode b_Mo_distance 41 = .ok (.ireturn, 1) := by decide +kernel
theorem d_Mo_distance_42 : decode b_Mo_distance 42 = .ok (.aload_n 0, 1) := by decide +kernel
theorem d_Mo_distance_43 : decode b_Mo_distance 43 = .ok (.iload_n 1, 1) := by decide +kernel
theorem d_Mo_distance_44 : decode b_Mo_distance 44 = .ok (.iload_n 2, 1) := by decide +kernel
theorem d_Mo_distance_45 : decode b_Mo_distance 45 = .ok (.iload_n 3, 1) := by decide +kernel
theorem d_Mo_distance_46 : decode b_Mo_distance 46 = .ok (.iconst (-1), 1) := by decide +kernel
theorem d_Mo_distance_47 : decode b_Mo_distance 47 = .ok (.invokevirtual 95, 3) := by decide +kernel
theorem d_Mo_distance_50 : decode b_Mo_distance 50 = .ok (.iload 4, 2) := by decide +kernel
theorem d_Mo_distance_52 : decode b_Mo_distance 52 = .ok (.ifCond .ne 10, 3) := by decide +kernel
theorem d_Mo_distance_55 : decode b_Mo_distance 55 = .ok (.aload_n 0, 1) := by decide +kernel
theorem d_Mo_distance_56 : decode b_Mo_distance 56 = .ok (.getfield 89, 3) := by decide +kernel
theorem d_Mo_distance_59 : decode b_Mo_distance 59 = .ok (.goto 7, 3) := by decide +kernel
theorem d_Mo_distance_62 : decode b_Mo_distance 62 = .ok (.aload_n 0, 1) := by decide +kernel
theorem d_Mo_distance_63 : decode b_Mo_distance 63 = .ok (.getfield 92, 3) := by decide +kernel
theorem d_Mo_distance_66 : decode b_Mo_distance 66 = .ok (.ireturn, 1) := by decide +kernel
theorem d_Mo_date_0 : decode b_Mo_date 0 = .ok (.aload_n 0, 1) := by decide +kernel
theorem d_Mo_date_1 : decode b_Mo_date 1 = .ok (.aload_n 0, 1) := by decide +kernel
theorem d_Mo_date_2 : decode b_Mo_date 2 = .ok (.iload_n 1, 1) := by decide +kernel
theorem d_Mo_date_3 : decode b_Mo_date 3 = .ok (.invokevirtual 64, 3) := by decide +kernel
theorem d_Mo_date_6 : decode b_Mo_date 6 = .ok (.ifCond .eq 15, 3) := by decide +kernel
theorem d_Mo_date_9 : decode b_Mo_date 9 = .ok (.aload_n 0, 1) := by decide +kernel
theorem d_Mo_date_10 : decode b_Mo_date 10 = .ok (.iload_n 2, 1) := by decide +kernel
theorem d_Mo_date_11 : decode b_Mo_date 11 = .ok (.invokevirtual 75, 3) := by decide +kernel
theorem d_Mo_date_14 : decode b_Mo_date 14 = .ok (.ifCond .eq 7, 3) := by decide +kernel
theorem d_Mo_date_17 : decode b_Mo_date 17 = .ok (.iconst 1, 1) := by decide +kernel
theorem d_Mo_date_18 : decode b_Mo_date 18 = .ok (.goto 4, 3) := by decide +kernel
theorem d_Mo_date_21 : decode b_Mo_date 21 = .ok (.iconst 0, 1) := by decide +kernel
theorem d_Mo_date_22 : decode b_Mo_date 22 = .ok (.iload_n 3, 1) := by decide +kernel
theorem d_Mo_date_23 : decode b_Mo_date 23 = .ok (.invokestatic 112, 3) := by decide +kernel
theorem d_Mo_date_26 : decode b_Mo_date 26 = .ok (.iconst 1, 1) := by decide +kernel
theorem d_Mo_date_27 : decode b_Mo_date 27 = .ok (.invokevirtual 60, 3) := by decide +kernel
theorem d_Mo_date_30 : decode b_Mo_date 30 = .ok (.ifCond .ne 5, 3) := by decide +kernel
theorem d_Mo_date_33 : decode b_Mo_date 33 = .ok (.iconst 0, 1) := by decide +kernel
theorem d_Mo_date_34 : decode b_Mo_date 34 = .ok (.ireturn, 1) := by decide +kernel
theorem d_Mo_date_35 : decode b_Mo_date 35 = .ok (.aload_n 0, 1) := by decide +kernel
theorem d_Mo_date_36 : decode b_Mo_date 36 = .ok (.iload_n 1, 1) := by decide +kernel
theorem d_Mo_date_37 : decode b_Mo_date 37 = .ok (.iload_n 2, 1) := by decide +kernel
theorem d_Mo_date_38 : decode b_Mo_date 38 = .ok (.iload_n 3, 1) := by decide +kernel
theorem d_Mo_date_39 : decode b_Mo_date 39 = .ok (.invokevirtual 115, 3) := by decide +kernel
theorem d_Mo_date_42 : decode b_Mo_date 42 = .ok (.aload_n 0, 1) := by decide +kernel
theorem d_Mo_date_43 : decode b_Mo_date 43 = .ok (.getfield 99, 3) := by decide +kernel
theorem d_Mo_date_46 : decode b_Mo_date 46 = .ok (.ireturn, 1) := by decide +kernel
theorem d_Mo_isLeast_0 : decode b_Mo_isLeast 0 = .ok (.iload_n 0, 1) := by decide +kernel
theorem d_Mo_isLeast_1 : decode b_Mo_isLeast 1 = .ok (.iconst 2, 1) := by decide +kernel
theorem d_Mo_isLeast_2 : decode b_Mo_isLeast 2 = .ok (.bipush 30, 2) := by decide +kernel
theorem d_Mo_isLeast_4 : decode b_Mo_isLeast 4 = .ok (.invokestatic 50, 3) := by decide +kernel
theorem d_Mo_isLeast_7 : decode b_Mo_isLeast 7 = .ok (.ireturn, 1) := by decide +kernel
theorem d_Mo_seek_0 : decode b_Mo_seek 0 = .ok (.aload_n 0, 1) := by decide +kernel
theorem d_Mo_seek_1 : decode b_Mo_seek 1 = .ok (.sipush (-1000), 3) := by decide +kernel
theorem d_Mo_seek_4 : decode b_Mo_seek 4 = .ok (.putfield 99, 3) := by decide +kernel
theorem d_Mo_seek_7 : decode b_Mo_seek 7 = .ok (.aload_n 0, 1) := by decide +kernel
theorem d_Mo_seek_8 : decode b_Mo_seek 8 = .ok (.getfield 25, 3) := by decide +kernel
theorem d_Mo_seek_11 : decode b_Mo_seek 11 = .ok (.iload_n 2, 1) := by decide +kernel
theorem d_Mo_seek_12 : decode b_Mo_seek 12 = .ok (.iaload, 1) := by decide +kernel
theorem d_Mo_seek_13 : decode b_Mo_seek 13 = .ok (.bipush 30, 2) := by decide +kernel
theorem d_Mo_seek_15 : decode b_Mo_seek 15 = .ok (.isub, 1) := by decide +kernel
theorem d_Mo_seek_16 : decode b_Mo_seek 16 = .ok (.istore 4, 2) := by decide +kernel
theorem d_Mo_seek_18 : decode b_Mo_seek 18 = .ok (.iload 4, 2) := by decide +kernel
theorem d_Mo_seek_20 : decode b_Mo_seek 20 = .ok (.aload_n 0, 1) := by decide +kernel
theorem d_Mo_seek_21 : decode b_Mo_seek 21 = .ok (.getfield 28, 3) := by decide +kernel
theorem d_Mo_seek_24 : decode b_Mo_seek 24 = .ok (.iload_n 2, 1) := by decide +kernel
theorem d_Mo_seek_25 : decode b_Mo_seek 25 = .ok (.iaload, 1) := by decide +kernel
theorem d_Mo_seek_26 : decode b_Mo_seek 26 = .ok (.if_icmp .gt 80, 3) := by decide +kernel
theorem d_Mo_seek_29 : decode b_Mo_seek 29 = .ok (.aload_n 0, 1) := by decide +kernel
theorem d_Mo_seek_30 : decode b_Mo_seek 30 = .ok (.iload_n 1, 1) := by decide +kernel
theorem d_Mo_seek_31 : decode b_Mo_seek 31 = .ok (.iload_n 2, 1) := by decide +kernel
theorem d_Mo_seek_32 : decode b_Mo_seek 32 = .ok (.iload 4, 2) := by decide +kernel
theorem d_Mo_seek_34 : decode b_Mo_seek 34 = .ok (.iconst (-1), 1) := by decide +kernel
theorem d_Mo_seek_35 : decode b_Mo_seek 35 = .ok (.invokevirtual 95, 3) := by decide +kernel
theorem d_Mo_seek_38 : decode b_Mo_seek 38 = .ok (.aload_n 0, 1) := by decide +kernel
theorem d_Mo_seek_39 : decode b_Mo_seek 39 = .ok (.getfield 92, 3) := by decide +kernel
theorem d_Mo_seek_42 : decode b_Mo_seek 42 = .ok (.iload_n 3, 1) := by decide +kernel
theorem d_Mo_seek_43 : decode b_Mo_seek 43 = .ok (.if_icmp .lt 57, 3) := by decide +kernel
theorem d_Mo_seek_46 : decode b_Mo_seek 46 = .ok (.aload_n 0, 1) := by decide +kernel
theorem d_Mo_seek_47 : decode b_Mo_seek 47 = .ok (.getfield 99, 3) := by decide +kernel
theorem d_Mo_seek_50 : decode b_Mo_seek 50 = .ok (.sipush (-1000), 3) := by decide +kernel
theorem d_Mo_seek_53 : decode b_Mo_seek 53 = .ok (.if_icmp .eq 25, 3) := by decide +kernel
theorem d_Mo_seek_56 : decode b_Mo_seek 56 = .ok (.aload_n 0, 1) := by decide +kernel
theorem d_Mo_seek_57 : decode b_Mo_seek 57 = .ok (.getfield 89, 3) := by decide +kernel
theorem d_Mo_seek_60 : decode b_Mo_seek 60 = .ok (.aload_n 0, 1) := by decide +kernel
theorem d_Mo_seek_61 : decode b_Mo_seek 61 = .ok (.getfield 92, 3) := by decide +kernel
theorem d_Mo_seek_64 : decode b_Mo_seek 64 = .ok (.aload_n 0, 1) := by decide +kernel
theorem d_Mo_seek_65 : decode b_Mo_seek 65 = .ok (.getfield 102, 3) := by decide +kernel
theorem d_Mo_seek_68 : decode b_Mo_seek 68 = .ok (.aload_n 0, 1) := by decide +kernel
theorem d_Mo_seek_69 : decode b_Mo_seek 69 = .ok (.getfield 105, 3) := by decide +kernel
theorem d_Mo_seek_72 : decode b_Mo_seek 72 = .ok (.invokestatic 108, 3) := by decide +kernel
theorem d_Mo_seek_75 : decode b_Mo_seek 75 = .ok (.ifCond .eq 25, 3) := by decide +kernel
theorem d_Mo_seek_78 : decode b_Mo_seek 78 = .ok (.aload_n 0, 1) := by decide +kernel
theorem d_Mo_seek_79 : decode b_Mo_seek 79 = .ok (.iload 4, 2) := by decide +kernel
theorem d_Mo_seek_81 : decode b_Mo_seek 81 = .ok (.putfield 99, 3) := by decide +kernel
theorem d_Mo_seek_84 : decode b_Mo_seek 84 = .ok (.aload_n 0, 1) := by decide +kernel
theorem d_Mo_seek_85 : decode b_Mo_seek 85 = .ok (.aload_n 0, 1) := by decide +kernel
theorem d_Mo_seek_86 : decode b_Mo_seek 86 = .ok (.getfield 89, 3) := by decide +kernel
theorem d_Mo_seek_89 : decode b_Mo_seek 89 = .ok (.putfield 102, 3) := by decide +kernel
theorem d_Mo_seek_92 : decode b_Mo_seek 92 = .ok (.aload_n 0, 1) := by decide +kernel
theorem d_Mo_seek_93 : decode b_Mo_seek 93 = .ok (.aload_n 0, 1) := by decide +kernel
theorem d_Mo_seek_94 : decode b_Mo_seek 94 = .ok (.getfield 92, 3) := by decide +kernel
theorem d_Mo_seek_97 : decode b_Mo_seek 97 = .ok (.putfield 105, 3) := by decide +kernel
theorem d_Mo_seek_100 : decode b_Mo_seek 100 = .ok (.iinc 4 1, 3) := by decide +kernel
theorem d_Mo_seek_103 : decode b_Mo_seek 103 = .ok (.goto (-85), 3) := by decide +kernel
theorem d_Mo_seek_106 : decode b_Mo_seek 106 = .ok (.return_, 1) := by decide +kernel
theorem d_Mo_isLess_0 : decode b_Mo_isLess 0 = .ok (.iload_n 0, 1) := by decide +kernel
theorem d_Mo_isLess_1 : decode b_Mo_isLess 1 = .ok (.iload_n 3, 1) := by decide +kernel
theorem d_Mo_isLess_2 : decode b_Mo_isLess 2 = .ok (.imul, 1) := by decide +kernel
theorem d_Mo_isLess_3 : decode b_Mo_isLess 3 = .ok (.istore 4, 2) := by decide +kernel
theorem d_Mo_isLess_5 : decode b_Mo_isLess 5 = .ok (.iload_n 2, 1) := by decide +kernel
theorem d_Mo_isLess_6 : decode b_Mo_isLess 6 = .ok (.iload_n 1, 1) := by decide +kernel
theorem d_Mo_isLess_7 : decode b_Mo_isLess 7 = .ok (.imul, 1) := by decide +kernel
theorem d_Mo_isLess_8 : decode b_Mo_isLess 8 = .ok (.istore 5, 2) := by decide +kernel
theorem d_Mo_isLess_10 : decode b_Mo_isLess 10 = .ok (.iload 4, 2) := by decide +kernel
theorem d_Mo_isLess_12 : decode b_Mo_isLess 12 = .ok (.iload 5, 2) := by decide +kernel
theorem d_Mo_isLess_14 : decode b_Mo_isLess 14 = .ok (.if_icmp .eq 18, 3) := by decide +kernel
theorem d_Mo_isLess_17 : decode b_Mo_isLess 17 = .ok (.iload 4, 2) := by decide +kernel
theorem d_Mo_isLess_19 : decode b_Mo_isLess 19 = .ok (.iload 5, 2) := by decide +kernel
theorem d_Mo_isLess_21 : decode b_Mo_isLess 21 = .ok (.if_icmp .ge 7, 3) := by decide +kernel
theorem d_Mo_isLess_24 : decode b_Mo_isLess 24 = .ok (.iconst 1, 1) := by decide +kernel
theorem d_Mo_isLess_25 : decode b_Mo_isLess 25 = .ok (.goto 17, 3) := by decide +kernel
theorem d_Mo_isLess_28 : decode b_Mo_isLess 28 = .ok (.iconst 0, 1) := by decide +kernel
theorem d_Mo_isLess_29 : decode b_Mo_isLess 29 = .ok (.goto 13, 3) := by decide +kernel
theorem d_Mo_isLess_32 : decode b_Mo_isLess 32 = .ok (.iload_n 1, 1) := by decide +kernel
theorem d_Mo_isLess_33 : decode b_Mo_isLess 33 = .ok (.iload_n 3, 1) := by decide +kernel
theorem d_Mo_isLess_34 : decode b_Mo_isLess 34 = .ok (.if_icmp .le 7, 3) := by decide +kernel
theorem d_Mo_isLess_37 : decode b_Mo_isLess 37 = .ok (.iconst 1, 1) := by decide +kernel
theorem d_Mo_isLess_38 : decode b_Mo_isLess 38 = .ok (.goto 4, 3) := by decide +kernel
theorem d_Mo_isLess_41 : decode b_Mo_isLess 41 = .ok (.iconst 0, 1) := by decide +kernel
theorem d_Mo_isLess_42 : decode b_Mo_isLess 42 = .ok (.ireturn, 1) := by decide +kernel
theorem d_Mo_agrees_0 : decode b_Mo_agrees 0 = .ok (.aload_n 0, 1) := by decide +kernel
theorem d_Mo_agrees_1 : decode b_Mo_agrees 1 = .ok (.iload_n 1, 1) := by decide +kernel
theorem d_Mo_agrees_2 : decode b_Mo_agrees 2 = .ok (.invokevirtual 64, 3) := by decide +kernel
theorem d_Mo_agrees_5 : decode b_Mo_agrees 5 = .ok (.ifCond .eq 21, 3) := by decide +kernel
theorem d_Mo_agrees_8 : decode b_Mo_agrees 8 = .ok (.iload_n 2, 1) := by decide +kernel
theorem d_Mo_agrees_9 : decode b_Mo_agrees 9 = .ok (.ifCond .lt 17, 3) := by decide +kernel
theorem d_Mo_agrees_12 : decode b_Mo_agrees 12 = .ok (.iload_n 2, 1) := by decide +kernel
theorem d_Mo_agrees_13 : decode b_Mo_agrees 13 = .ok (.iconst 1, 1) := by decide +kernel
theorem d_Mo_agrees_14 : decode b_Mo_agrees 14 = .ok (.aload_n 0, 1) := by decide +kernel
theorem d_Mo_agrees_15 : decode b_Mo_agrees 15 = .ok (.getfield 54, 3) := by decide +kernel
theorem d_Mo_agrees_18 : decode b_Mo_agrees 18 = .ok (.ishl, 1) := by decide +kernel
theorem d_Mo_agrees_19 : decode b_Mo_agrees 19 = .ok (.if_icmp .ge 7, 3) := by decide +kernel
theorem d_Mo_agrees_22 : decode b_Mo_agrees 22 = .ok (.iconst 1, 1) := by decide +kernel
theorem d_Mo_agrees_23 : decode b_Mo_agrees 23 = .ok (.goto 4, 3) := by decide +kernel
theorem d_Mo_agrees_26 : decode b_Mo_agrees 26 = .ok (.iconst 0, 1) := by decide +kernel
theorem d_Mo_agrees_27 : decode b_Mo_agrees 27 = .ok (.istore 4, 2) := by decide +kernel
theorem d_Mo_agrees_29 : decode b_Mo_agrees 29 = .ok (.aload_n 0, 1) := by decide +kernel
theorem d_Mo_agrees_30 : decode b_Mo_agrees 30 = .ok (.iload 4, 2) := by decide +kernel
theorem d_Mo_agrees_32 : decode b_Mo_agrees 32 = .ok (.iload_n 3, 1) := by decide +kernel
theorem d_Mo_agrees_33 : decode b_Mo_agrees 33 = .ok (.invokestatic 112, 3) := by decide +kernel
theorem d_Mo_agrees_36 : decode b_Mo_agrees 36 = .ok (.iconst 1, 1) := by decide +kernel
theorem d_Mo_agrees_37 : decode b_Mo_agrees 37 = .ok (.invokevirtual 60, 3) := by decide +kernel
theorem d_Mo_agrees_40 : decode b_Mo_agrees 40 = .ok (.ifCond .ne 5, 3) := by decide +kernel
theorem d_Mo_agrees_43 : decode b_Mo_agrees 43 = .ok (.iconst 0, 1) := by decide +kernel
theorem d_Mo_agrees_44 : decode b_Mo_agrees 44 = .ok (.ireturn, 1) := by decide +kernel
theorem d_Mo_agrees_45 : decode b_Mo_agrees 45 = .ok (.sipush (-1000), 3) := by decide +kernel
theorem d_Mo_agrees_48 : decode b_Mo_agrees 48 = .ok (.istore 5, 2) := by decide +kernel
theorem d_Mo_agrees_50 : decode b_Mo_agrees 50 = .ok (.iload_n 2, 1) := by decide +kernel
theorem d_Mo_agrees_51 : decode b_Mo_agrees 51 = .ok (.ifCond .le 7, 3) := by decide +kernel
theorem d_Mo_agrees_54 : decode b_Mo_agrees 54 = .ok (.iconst 1, 1) := by decide +kernel
theorem d_Mo_agrees_55 : decode b_Mo_agrees 55 = .ok (.goto 4, 3) := by decide +kernel
theorem d_Mo_agrees_58 : decode b_Mo_agrees 58 = .ok (.iconst 0, 1) := by decide +kernel
theorem d_Mo_agrees_59 : decode b_Mo_agrees 59 = .ok (.istore 6, 2) := by decide +kernel
theorem d_Mo_agrees_61 : decode b_Mo_agrees 61 = .ok (.iconst 0, 1) := by decide +kernel
theorem d_Mo_agrees_62 : decode b_Mo_agrees 62 = .ok (.istore 7, 2) := by decide +kernel
theorem d_Mo_agrees_64 : decode b_Mo_agrees 64 = .ok (.iload 7, 2) := by decide +kernel
theorem d_Mo_agrees_66 : decode b_Mo_agrees 66 = .ok (.aload_n 0, 1) := by decide +kernel
theorem d_Mo_agrees_67 : decode b_Mo_agrees 67 = .ok (.getfield 54, 3) := by decide +kernel
theorem d_Mo_agrees_70 : decode b_Mo_agrees 70 = .ok (.if_icmp .ge 72, 3) := by decide +kernel
theorem d_Mo_agrees_73 : decode b_Mo_agrees 73 = .ok (.iload_n 2, 1) := by decide +kernel
theorem d_Mo_agrees_74 : decode b_Mo_agrees 74 = .ok (.iload 7, 2) := by decide +kernel
theorem d_Mo_agrees_76 : decode b_Mo_agrees 76 = .ok (.ishr, 1) := by decide +kernel
theorem d_Mo_agrees_77 : decode b_Mo_agrees 77 = .ok (.iconst 1, 1) := by decide +kernel
theorem d_Mo_agrees_78 : decode b_Mo_agrees 78 = .ok (.iand, 1) := by decide +kernel
theorem d_Mo_agrees_79 : decode b_Mo_agrees 79 = .ok (.iconst 1, 1) := by decide +kernel
theorem d_Mo_agrees_80 : decode b_Mo_agrees 80 = .ok (.if_icmp .ne 56, 3) := by decide +kernel
theorem d_Mo_agrees_83 : decode b_Mo_agrees 83 = .ok (.aload_n 0, 1) := by decide +kernel
theorem d_Mo_agrees_84 : decode b_Mo_agrees 84 = .ok (.iload_n 1, 1) := by decide +kernel
theorem d_Mo_agrees_85 : decode b_Mo_agrees 85 = .ok (.iload 7, 2) := by decide +kernel
theorem d_Mo_agrees_87 : decode b_Mo_agrees 87 = .ok (.iload_n 3, 1) := by decide +kernel
theorem d_Mo_agrees_88 : decode b_Mo_agrees 88 = .ok (.invokevirtual 115, 3) := by decide +kernel
theorem d_Mo_agrees_91 : decode b_Mo_agrees 91 = .ok (.iload 6, 2) := by decide +kernel
theorem d_Mo_agrees_93 : decode b_Mo_agrees 93 = .ok (.ifCond .eq 34, 3) := by decide +kernel
theorem d_Mo_agrees_96 : decode b_Mo_agrees 96 = .ok (.aload_n 0, 1) := by decide +kernel
theorem d_Mo_agrees_97 : decode b_Mo_agrees 97 = .ok (.getfield 99, 3) := by decide +kernel
theorem d_Mo_agrees_100 : decode b_Mo_agrees 100 = .ok (.sipush (-1000), 3) := by decide +kernel
theorem d_Mo_agrees_103 : decode b_Mo_agrees 103 = .ok (.if_icmp .eq 24, 3) := by decide +kernel
theorem d_Mo_agrees_106 : decode b_Mo_agrees 106 = .ok (.iload 5, 2) := by decide +kernel
theorem d_Mo_agrees_108 : decode b_Mo_agrees 108 = .ok (.sipush (-1000), 3) := by decide +kernel
theorem d_Mo_agrees_111 : decode b_Mo_agrees 111 = .ok (.if_icmp .eq 12, 3) := by decide +kernel
theorem d_Mo_agrees_114 : decode b_Mo_agrees 114 = .ok (.iload 5, 2) := by decide +kernel
theorem d_Mo_agrees_116 : decode b_Mo_agrees 116 = .ok (.aload_n 0, 1) := by decide +kernel
theorem d_Mo_agrees_117 : decode b_Mo_agrees 117 = .ok (.getfield 99, 3) := by decide +kernel
theorem d_Mo_agrees_120 : decode b_Mo_agrees 120 = .ok (.if_icmp .ne 7, 3) := by decide +kernel
theorem d_Mo_agrees_123 : decode b_Mo_agrees 123 = .ok (.iconst 1, 1) := by decide +kernel
theorem d_Mo_agrees_124 : decode b_Mo_agrees 124 = .ok (.goto 4, 3) := by decide +kernel
theorem d_Mo_agrees_127 : decode b_Mo_agrees 127 = .ok (.iconst 0, 1) := by decide +kernel
theorem d_Mo_agrees_128 : decode b_Mo_agrees 128 = .ok (.istore 6, 2) := by decide +kernel
theorem d_Mo_agrees_130 : decode b_Mo_agrees 130 = .ok (.aload_n 0, 1) := by decide +kernel
theorem d_Mo_agrees_131 : decode b_Mo_agrees 131 = .ok (.getfield 99, 3) := by decide +kernel
theorem d_Mo_agrees_134 : decode b_Mo_agrees 134 = .ok (.istore 5, 2) := by decide +kernel
theorem d_Mo_agrees_136 : decode b_Mo_agrees 136 = .ok (.iinc 7 1, 3) := by decide +kernel
theorem d_Mo_agrees_139 : decode b_Mo_agrees 139 = .ok (.goto (-75), 3) := by decide +kernel
theorem d_Mo_agrees_142 : decode b_Mo_agrees 142 = .ok (.iload 6, 2) := by decide +kernel
theorem d_Mo_agrees_144 : decode b_Mo_agrees 144 = .ok (.ireturn, 1) := by decide +kernel
theorem d_Mo_source_0 : decode b_Mo_source 0 = .ok (.aload_n 0, 1) := by decide +kernel
theorem d_Mo_source_1 : decode b_Mo_source 1 = .ok (.aload_n 0, 1) := by decide +kernel
theorem d_Mo_source_2 : decode b_Mo_source 2 = .ok (.iload_n 1, 1) := by decide +kernel
theorem d_Mo_source_3 : decode b_Mo_source 3 = .ok (.invokevirtual 64, 3) := by decide +kernel
theorem d_Mo_source_6 : decode b_Mo_source 6 = .ok (.ifCond .eq 11, 3) := by decide +kernel
theorem d_Mo_source_9 : decode b_Mo_source 9 = .ok (.iload_n 3, 1) := by decide +kernel
theorem d_Mo_source_10 : decode b_Mo_source 10 = .ok (.ifCond .lt 7, 3) := by decide +kernel
theorem d_Mo_source_13 : decode b_Mo_source 13 = .ok (.iconst 1, 1) := by decide +kernel
theorem d_Mo_source_14 : decode b_Mo_source 14 = .ok (.goto 4, 3) := by decide +kernel
theorem d_Mo_source_17 : decode b_Mo_source 17 = .ok (.iconst 0, 1) := by decide +kernel
theorem d_Mo_source_18 : decode b_Mo_source 18 = .ok (.iload_n 2, 1) := by decide +kernel
theorem d_Mo_source_19 : decode b_Mo_source 19 = .ok (.invokestatic 112, 3) := by decide +kernel
theorem d_Mo_source_22 : decode b_Mo_source 22 = .ok (.iconst 1, 1) := by decide +kernel
theorem d_Mo_source_23 : decode b_Mo_source 23 = .ok (.invokevirtual 60, 3) := by decide +kernel
theorem d_Mo_source_26 : decode b_Mo_source 26 = .ok (.ifCond .ne 5, 3) := by decide +kernel
theorem d_Mo_source_29 : decode b_Mo_source 29 = .ok (.iconst 0, 1) := by decide +kernel
theorem d_Mo_source_30 : decode b_Mo_source 30 = .ok (.ireturn, 1) := by decide +kernel
theorem d_Mo_source_31 : decode b_Mo_source 31 = .ok (.iconst 0, 1) := by decide +kernel
theorem d_Mo_source_32 : decode b_Mo_source 32 = .ok (.istore 4, 2) := by decide +kernel
theorem d_Mo_source_34 : decode b_Mo_source 34 = .ok (.iload 4, 2) := by decide +kernel
theorem d_Mo_source_36 : decode b_Mo_source 36 = .ok (.aload_n 0, 1) := by decide +kernel
theorem d_Mo_source_37 : decode b_Mo_source 37 = .ok (.getfield 54, 3) := by decide +kernel
theorem d_Mo_source_40 : decode b_Mo_source 40 = .ok (.if_icmp .ge 50, 3) := by decide +kernel
theorem d_Mo_source_43 : decode b_Mo_source 43 = .ok (.aload_n 0, 1) := by decide +kernel
theorem d_Mo_source_44 : decode b_Mo_source 44 = .ok (.iload_n 1, 1) := by decide +kernel
theorem d_Mo_source_45 : decode b_Mo_source 45 = .ok (.iload 4, 2) := by decide +kernel
theorem d_Mo_source_47 : decode b_Mo_source 47 = .ok (.iload_n 2, 1) := by decide +kernel
theorem d_Mo_source_48 : decode b_Mo_source 48 = .ok (.invokevirtual 115, 3) := by decide +kernel
theorem d_Mo_source_51 : decode b_Mo_source 51 = .ok (.aload_n 0, 1) := by decide +kernel
theorem d_Mo_source_52 : decode b_Mo_source 52 = .ok (.getfield 34, 3) := by decide +kernel
theorem d_Mo_source_55 : decode b_Mo_source 55 = .ok (.iload 4, 2) := by decide +kernel
theorem d_Mo_source_57 : decode b_Mo_source 57 = .ok (.aload_n 0, 1) := by decide +kernel
theorem d_Mo_source_58 : decode b_Mo_source 58 = .ok (.getfield 99, 3) := by decide +kernel
theorem d_Mo_source_61 : decode b_Mo_source 61 = .ok (.iastore, 1) := by decide +kernel
theorem d_Mo_source_62 : decode b_Mo_source 62 = .ok (.aload_n 0, 1) := by decide +kernel
theorem d_Mo_source_63 : decode b_Mo_source 63 = .ok (.getfield 37, 3) := by decide +kernel
theorem d_Mo_source_66 : decode b_Mo_source 66 = .ok (.iload 4, 2) := by decide +kernel
theorem d_Mo_source_68 : decode b_Mo_source 68 = .ok (.aload_n 0, 1) := by decide +kernel
theorem d_Mo_source_69 : decode b_Mo_source 69 = .ok (.getfield 102, 3) := by decide +kernel
theorem d_Mo_source_72 : decode b_Mo_source 72 = .ok (.iastore, 1) := by decide +kernel
theorem d_Mo_source_73 : decode b_Mo_source 73 = .ok (.aload_n 0, 1) := by decide +kernel
theorem d_Mo_source_74 : decode b_Mo_source 74 = .ok (.getfield 40, 3) := by decide +kernel
theorem d_Mo_source_77 : decode b_Mo_source 77 = .ok (.iload 4, 2) := by decide +kernel
theorem d_Mo_source_79 : decode b_Mo_source 79 = .ok (.aload_n 0, 1) := by decide +kernel
theorem d_Mo_source_80 : decode b_Mo_source 80 = .ok (.getfield 105, 3) := by decide +kernel
theorem d_Mo_source_83 : decode b_Mo_source 83 = .ok (.iastore, 1) := by decide +kernel
theorem d_Mo_source_84 : decode b_Mo_source 84 = .ok (.iinc 4 1, 3) := by decide +kernel
theorem d_Mo_source_87 : decode b_Mo_source 87 = .ok (.goto (-53), 3) := by decide +kernel
theorem d_Mo_source_90 : decode b_Mo_source 90 = .ok (.iconst (-1), 1) := by decide +kernel
theorem d_Mo_source_91 : decode b_Mo_source 91 = .ok (.istore 4, 2) := by decide +kernel
theorem d_Mo_source_93 : decode b_Mo_source 93 = .ok (.iconst 0, 1) := by decide +kernel
theorem d_Mo_source_94 : decode b_Mo_source 94 = .ok (.istore 5, 2) := by decide +kernel
theorem d_Mo_source_96 : decode b_Mo_source 96 = .ok (.iload 5, 2) := by decide +kernel
theorem d_Mo_source_98 : decode b_Mo_source 98 = .ok (.aload_n 0, 1) := by decide +kernel
theorem d_Mo_source_99 : decode b_Mo_source 99 = .ok (.getfield 54, 3) := by decide +kernel
theorem d_Mo_source_102 : decode b_Mo_source 102 = .ok (.if_icmp .ge 165, 3) := by decide +kernel
theorem d_Mo_source_105 : decode b_Mo_source 105 = .ok (.iconst 0, 1) := by decide +kernel
theorem d_Mo_source_106 : decode b_Mo_source 106 = .ok (.istore 6, 2) := by decide +kernel
theorem d_Mo_source_108 : decode b_Mo_source 108 = .ok (.iconst 0, 1) := by decide +kernel
theorem d_Mo_source_109 : decode b_Mo_source 109 = .ok (.istore 7, 2) := by decide +kernel
theorem d_Mo_source_111 : decode b_Mo_source 111 = .ok (.iload 7, 2) := by decide +kernel
theorem d_Mo_source_113 : decode b_Mo_source 113 = .ok (.aload_n 0, 1) := by decide +kernel
theorem d_Mo_source_114 : decode b_Mo_source 114 = .ok (.getfield 54, 3) := by decide +kernel
theorem d_Mo_source_117 : decode b_Mo_source 117 = .ok (.if_icmp .ge 116, 3) := by decide +kernel
theorem d_Mo_source_120 : decode b_Mo_source 120 = .ok (.aload_n 0, 1) := by decide +kernel
theorem d_Mo_source_121 : decode b_Mo_source 121 = .ok (.getfield 37, 3) := by decide +kernel
theorem d_Mo_source_124 : decode b_Mo_source 124 = .ok (.iload 7, 2) := by decide +kernel
theorem d_Mo_source_126 : decode b_Mo_source 126 = .ok (.iaload, 1) := by decide +kernel
theorem d_Mo_source_127 : decode b_Mo_source 127 = .ok (.aload_n 0, 1) := by decide +kernel
theorem d_Mo_source_128 : decode b_Mo_source 128 = .ok (.getfield 40, 3) := by decide +kernel
theorem d_Mo_source_131 : decode b_Mo_source 131 = .ok (.iload 7, 2) := by decide +kernel
theorem d_Mo_source_133 : decode b_Mo_source 133 = .ok (.iaload, 1) := by decide +kernel
theorem d_Mo_source_134 : decode b_Mo_source 134 = .ok (.aload_n 0, 1) := by decide +kernel
theorem d_Mo_source_135 : decode b_Mo_source 135 = .ok (.getfield 37, 3) := by decide +kernel
theorem d_Mo_source_138 : decode b_Mo_source 138 = .ok (.iload 5, 2) := by decide +kernel
theorem d_Mo_source_140 : decode b_Mo_source 140 = .ok (.iaload, 1) := by decide +kernel
theorem d_Mo_source_141 : decode b_Mo_source 141 = .ok (.aload_n 0, 1) := by decide +kernel
theorem d_Mo_source_142 : decode b_Mo_source 142 = .ok (.getfield 40, 3) := by decide +kernel
theorem d_Mo_source_145 : decode b_Mo_source 145 = .ok (.iload 5, 2) := by decide +kernel
theorem d_Mo_source_147 : decode b_Mo_source 147 = .ok (.iaload, 1) := by decide +kernel
theorem d_Mo_source_148 : decode b_Mo_source 148 = .ok (.invokestatic 108, 3) := by decide +kernel
theorem d_Mo_source_151 : decode b_Mo_source 151 = .ok (.istore 8, 2) := by decide +kernel
theorem d_Mo_source_153 : decode b_Mo_source 153 = .ok (.aload_n 0, 1) := by decide +kernel
theorem d_Mo_source_154 : decode b_Mo_source 154 = .ok (.getfield 37, 3) := by decide +kernel
theorem d_Mo_source_157 : decode b_Mo_source 157 = .ok (.iload 5, 2) := by decide +kernel
theorem d_Mo_source_159 : decode b_Mo_source 159 = .ok (.iaload, 1) := by decide +kernel
theorem d_Mo_source_160 : decode b_Mo_source 160 = .ok (.aload_n 0, 1) := by decide +kernel
theorem d_Mo_source_161 : decode b_Mo_source 161 = .ok (.getfield 40, 3) := by decide +kernel
theorem d_Mo_source_164 : decode b_Mo_source 164 = .ok (.iload 5, 2) := by decide +kernel
theorem d_Mo_source_166 : decode b_Mo_source 166 = .ok (.iaload, 1) := by decide +kernel
theorem d_Mo_source_167 : decode b_Mo_source 167 = .ok (.aload_n 0, 1) := by decide +kernel
theorem d_Mo_source_168 : decode b_Mo_source 168 = .ok (.getfield 37, 3) := by decide +kernel
theorem d_Mo_source_171 : decode b_Mo_source 171 = .ok (.iload 7, 2) := by decide +kernel
theorem d_Mo_source_173 : decode b_Mo_source 173 = .ok (.iaload, 1) := by decide +kernel
theorem d_Mo_source_174 : decode b_Mo_source 174 = .ok (.aload_n 0, 1) := by decide +kernel
theorem d_Mo_source_175 : decode b_Mo_source 175 = .ok (.getfield 40, 3) := by decide +kernel
theorem d_Mo_source_178 : decode b_Mo_source 178 = .ok (.iload 7, 2) := by decide +kernel
theorem d_Mo_source_180 : decode b_Mo_source 180 = .ok (.iaload, 1) := by decide +kernel
theorem d_Mo_source_181 : decode b_Mo_source 181 = .ok (.invokestatic 108, 3) := by decide +kernel
theorem d_Mo_source_184 : decode b_Mo_source 184 = .ok (.istore 9, 2) := by decide +kernel
theorem d_Mo_source_186 : decode b_Mo_source 186 = .ok (.aload_n 0, 1) := by decide +kernel
theorem d_Mo_source_187 : decode b_Mo_source 187 = .ok (.getfield 34, 3) := by decide +kernel
theorem d_Mo_source_190 : decode b_Mo_source 190 = .ok (.iload 7, 2) := by decide +kernel
theorem d_Mo_source_192 : decode b_Mo_source 192 = .ok (.iaload, 1) := by decide +kernel
theorem d_Mo_source_193 : decode b_Mo_source 193 = .ok (.sipush (-1000), 3) := by decide +kernel
theorem d_Mo_source_196 : decode b_Mo_source 196 = .ok (.if_icmp .eq 27, 3) := by decide +kernel
theorem d_Mo_source_199 : decode b_Mo_source 199 = .ok (.iload 8, 2) := by decide +kernel
theorem d_Mo_source_201 : decode b_Mo_source 201 = .ok (.ifCond .ne 15, 3) := by decide +kernel
theorem d_Mo_source_204 : decode b_Mo_source 204 = .ok (.iload 9, 2) := by decide +kernel
theorem d_Mo_source_206 : decode b_Mo_source 206 = .ok (.ifCond .ne 17, 3) := by decide +kernel
theorem d_Mo_source_209 : decode b_Mo_source 209 = .ok (.iload 7, 2) := by decide +kernel
theorem d_Mo_source_211 : decode b_Mo_source 211 = .ok (.iload 5, 2) := by decide +kernel
theorem d_Mo_source_213 : decode b_Mo_source 213 = .ok (.if_icmp .ge 10, 3) := by decide +kernel
theorem d_Mo_source_216 : decode b_Mo_source 216 = .ok (.iload 6, 2) := by decide +kernel
theorem d_Mo_source_218 : decode b_Mo_source 218 = .ok (.iconst 1, 1) := by decide +kernel
theorem d_Mo_source_219 : decode b_Mo_source 219 = .ok (.iadd, 1) := by decide +kernel
theorem d_Mo_source_220 : decode b_Mo_source 220 = .ok (.goto 5, 3) := by decide +kernel
theorem d_Mo_source_223 : decode b_Mo_source 223 = .ok (.iload 6, 2) := by decide +kernel
theorem d_Mo_source_225 : decode b_Mo_source 225 = .ok (.istore 6, 2) := by decide +kernel
theorem d_Mo_source_227 : decode b_Mo_source 227 = .ok (.iinc 7 1, 3) := by decide +kernel
theorem d_Mo_source_230 : decode b_Mo_source 230 = .ok (.goto (-119), 3) := by decide +kernel
theorem d_Mo_source_233 : decode b_Mo_source 233 = .ok (.aload_n 0, 1) := by decide +kernel
theorem d_Mo_source_234 : decode b_Mo_source 234 = .ok (.getfield 34, 3) := by decide +kernel
theorem d_Mo_source_237 : decode b_Mo_source 237 = .ok (.iload 5, 2) := by decide +kernel
theorem d_Mo_source_239 : decode b_Mo_source 239 = .ok (.iaload, 1) := by decide +kernel
theorem d_Mo_source_240 : decode b_Mo_source 240 = .ok (.sipush (-1000), 3) := by decide +kernel
theorem d_Mo_source_243 : decode b_Mo_source 243 = .ok (.if_icmp .eq 14, 3) := by decide +kernel
theorem d_Mo_source_246 : decode b_Mo_source 246 = .ok (.iload 6, 2) := by decide +kernel
theorem d_Mo_source_248 : decode b_Mo_source 248 = .ok (.iload_n 3, 1) := by decide +kernel
theorem d_Mo_source_249 : decode b_Mo_source 249 = .ok (.if_icmp .ne 8, 3) := by decide +kernel
theorem d_Mo_source_252 : decode b_Mo_source 252 = .ok (.iload 5, 2) := by decide +kernel
theorem d_Mo_source_254 : decode b_Mo_source 254 = .ok (.goto 5, 3) := by decide +kernel

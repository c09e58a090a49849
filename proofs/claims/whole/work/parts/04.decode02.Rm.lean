theorem d_Rm_nearestYear_50 : decode b_Rm_nearestYear 50 = .ok (.iload_n 3, 1) := by decide +kernel
theorem d_Rm_nearestYear_51 : decode b_Rm_nearestYear 51 = .ok (.if_icmp .lt 40, 3) := by decide +kernel
theorem d_Rm_nearestYear_54 : decode b_Rm_nearestYear 54 = .ok (.iload 4, 2) := by decide +kernel
theorem d_Rm_nearestYear_56 : decode b_Rm_nearestYear 56 = .ok (.sipush (-1000), 3) := by decide +kernel
theorem d_Rm_nearestYear_59 : decode b_Rm_nearestYear 59 = .ok (.if_icmp .eq 17, 3) := by decide +kernel
theorem d_Rm_nearestYear_62 : decode b_Rm_nearestYear 62 = .ok (.aload_n 0, 1) := by decide +kernel
theorem d_Rm_nearestYear_63 : decode b_Rm_nearestYear 63 = .ok (.getfield 48, 3) := by decide +kernel
theorem d_Rm_nearestYear_66 : decode b_Rm_nearestYear 66 = .ok (.aload_n 0, 1) := by decide +kernel
theorem d_Rm_nearestYear_67 : decode b_Rm_nearestYear 67 = .ok (.getfield 52, 3) := by decide +kernel
theorem d_Rm_nearestYear_70 : decode b_Rm_nearestYear 70 = .ok (.invokevirtual 263, 3) := by decide +kernel
theorem d_Rm_nearestYear_73 : decode b_Rm_nearestYear 73 = .ok (.ifCond .eq 18, 3) := by decide +kernel
theorem d_Rm_nearestYear_76 : decode b_Rm_nearestYear 76 = .ok (.iload 5, 2) := by decide +kernel
theorem d_Rm_nearestYear_78 : decode b_Rm_nearestYear 78 = .ok (.istore 4, 2) := by decide +kernel
theorem d_Rm_nearestYear_80 : decode b_Rm_nearestYear 80 = .ok (.aload_n 0, 1) := by decide +kernel
theorem d_Rm_nearestYear_81 : decode b_Rm_nearestYear 81 = .ok (.getfield 52, 3) := by decide +kernel
theorem d_Rm_nearestYear_84 : decode b_Rm_nearestYear 84 = .ok (.aload_n 0, 1) := by decide +kernel
theorem d_Rm_nearestYear_85 : decode b_Rm_nearestYear 85 = .ok (.getfield 48, 3) := by decide +kernel
theorem d_Rm_nearestYear_88 : decode b_Rm_nearestYear 88 = .ok (.invokevirtual 186, 3) := by decide +kernel
theorem d_Rm_nearestYear_91 : decode b_Rm_nearestYear 91 = .ok (.iinc 5 1, 3) := by decide +kernel
theorem d_Rm_nearestYear_94 : decode b_Rm_nearestYear 94 = .ok (.goto (-68), 3) := by decide +kernel
theorem d_Rm_nearestYear_97 : decode b_Rm_nearestYear 97 = .ok (.iload 4, 2) := by decide +kernel
theorem d_Rm_nearestYear_99 : decode b_Rm_nearestYear 99 = .ok (.ireturn, 1) := by decide +kernel
theorem d_Rm_agrees_0 : decode b_Rm_agrees 0 = .ok (.aload_n 0, 1) := by decide +kernel
theorem d_Rm_agrees_1 : decode b_Rm_agrees 1 = .ok (.iload_n 1, 1) := by decide +kernel
theorem d_Rm_agrees_2 : decode b_Rm_agrees 2 = .ok (.invokevirtual 83, 3) := by decide +kernel
theorem d_Rm_agrees_5 : decode b_Rm_agrees 5 = .ok (.astore 4, 2) := by decide +kernel
theorem d_Rm_agrees_7 : decode b_Rm_agrees 7 = .ok (.iload_n 2, 1) := by decide +kernel
theorem d_Rm_agrees_8 : decode b_Rm_agrees 8 = .ok (.ifCond .lt 12, 3) := by decide +kernel
theorem d_Rm_agrees_11 : decode b_Rm_agrees 11 = .ok (.iload_n 2, 1) := by decide +kernel
theorem d_Rm_agrees_12 : decode b_Rm_agrees 12 = .ok (.aload_n 0, 1) := by decide +kernel
theorem d_Rm_agrees_13 : decode b_Rm_agrees 13 = .ok (.getfield 32, 3) := by decide +kernel
theorem d_Rm_agrees_16 : decode b_Rm_agrees 16 = .ok (.ishr, 1) := by decide +kernel
theorem d_Rm_agrees_17 : decode b_Rm_agrees 17 = .ok (.ifCond .eq 13, 3) := by decide +kernel
theorem d_Rm_agrees_20 : decode b_Rm_agrees 20 = .ok (.new 90, 3) := by decide +kernel
theorem d_Rm_agrees_23 : decode b_Rm_agrees 23 = .ok (.dup, 1) := by decide +kernel
theorem d_Rm_agrees_24 : decode b_Rm_agrees 24 = .ok (.ldc 182, 2) := by decide +kernel
theorem d_Rm_agrees_26 : decode b_Rm_agrees 26 = .ok (.invokespecial 94, 3) := by decide +kernel
theorem d_Rm_agrees_29 : decode b_Rm_agrees 29 = .ok (.athrow, 1) := by decide +kernel
theorem d_Rm_agrees_30 : decode b_Rm_agrees 30 = .ok (.iload_n 3, 1) := by decide +kernel
theorem d_Rm_agrees_31 : decode b_Rm_agrees 31 = .ok (.invokestatic 175, 3) := by decide +kernel
theorem d_Rm_agrees_34 : decode b_Rm_agrees 34 = .ok (.sipush (-1000), 3) := by decide +kernel
theorem d_Rm_agrees_37 : decode b_Rm_agrees 37 = .ok (.istore 5, 2) := by decide +kernel
theorem d_Rm_agrees_39 : decode b_Rm_agrees 39 = .ok (.iconst 0, 1) := by decide +kernel
theorem d_Rm_agrees_40 : decode b_Rm_agrees 40 = .ok (.istore 6, 2) := by decide +kernel
theorem d_Rm_agrees_42 : decode b_Rm_agrees 42 = .ok (.iload 6, 2) := by decide +kernel
theorem d_Rm_agrees_44 : decode b_Rm_agrees 44 = .ok (.aload_n 0, 1) := by decide +kernel
theorem d_Rm_agrees_45 : decode b_Rm_agrees 45 = .ok (.getfield 32, 3) := by decide +kernel
theorem d_Rm_agrees_48 : decode b_Rm_agrees 48 = .ok (.if_icmp .ge 66, 3) := by decide +kernel
theorem d_Rm_agrees_51 : decode b_Rm_agrees 51 = .ok (.iload_n 2, 1) := by decide +kernel
theorem d_Rm_agrees_52 : decode b_Rm_agrees 52 = .ok (.iload 6, 2) := by decide +kernel
theorem d_Rm_agrees_54 : decode b_Rm_agrees 54 = .ok (.ishr, 1) := by decide +kernel
theorem d_Rm_agrees_55 : decode b_Rm_agrees 55 = .ok (.iconst 1, 1) := by decide +kernel
theorem d_Rm_agrees_56 : decode b_Rm_agrees 56 = .ok (.iand, 1) := by decide +kernel
theorem d_Rm_agrees_57 : decode b_Rm_agrees 57 = .ok (.ifCond .ne 6, 3) := by decide +kernel
theorem d_Rm_agrees_60 : decode b_Rm_agrees 60 = .ok (.goto 48, 3) := by decide +kernel
theorem d_Rm_agrees_63 : decode b_Rm_agrees 63 = .ok (.aload_n 0, 1) := by decide +kernel
theorem d_Rm_agrees_64 : decode b_Rm_agrees 64 = .ok (.aload 4, 2) := by decide +kernel
theorem d_Rm_agrees_66 : decode b_Rm_agrees 66 = .ok (.aload_n 0, 1) := by decide +kernel
theorem d_Rm_agrees_67 : decode b_Rm_agrees 67 = .ok (.getfield 28, 3) := by decide +kernel
theorem d_Rm_agrees_70 : decode b_Rm_agrees 70 = .ok (.iload 6, 2) := by decide +kernel
theorem d_Rm_agrees_72 : decode b_Rm_agrees 72 = .ok (.aaload, 1) := by decide +kernel
theorem d_Rm_agrees_73 : decode b_Rm_agrees 73 = .ok (.iload_n 3, 1) := by decide +kernel
theorem d_Rm_agrees_74 : decode b_Rm_agrees 74 = .ok (.invokevirtual 178, 3) := by decide +kernel
theorem d_Rm_agrees_77 : decode b_Rm_agrees 77 = .ok (.istore 7, 2) := by decide +kernel
theorem d_Rm_agrees_79 : decode b_Rm_agrees 79 = .ok (.iload 7, 2) := by decide +kernel
theorem d_Rm_agrees_81 : decode b_Rm_agrees 81 = .ok (.sipush (-1000), 3) := by decide +kernel
theorem d_Rm_agrees_84 : decode b_Rm_agrees 84 = .ok (.if_icmp .eq 18, 3) := by decide +kernel
theorem d_Rm_agrees_87 : decode b_Rm_agrees 87 = .ok (.iload 5, 2) := by decide +kernel
theorem d_Rm_agrees_89 : decode b_Rm_agrees 89 = .ok (.sipush (-1000), 3) := by decide +kernel
theorem d_Rm_agrees_92 : decode b_Rm_agrees 92 = .ok (.if_icmp .eq 12, 3) := by decide +kernel
theorem d_Rm_agrees_95 : decode b_Rm_agrees 95 = .ok (.iload 7, 2) := by decide +kernel
theorem d_Rm_agrees_97 : decode b_Rm_agrees 97 = .ok (.iload 5, 2) := by decide +kernel
theorem d_Rm_agrees_99 : decode b_Rm_agrees 99 = .ok (.if_icmp .eq 5, 3) := by decide +kernel
theorem d_Rm_agrees_102 : decode b_Rm_agrees 102 = .ok (.iconst 0, 1) := by decide +kernel
theorem d_Rm_agrees_103 : decode b_Rm_agrees 103 = .ok (.ireturn, 1) := by decide +kernel
theorem d_Rm_agrees_104 : decode b_Rm_agrees 104 = .ok (.iload 7, 2) := by decide +kernel
theorem d_Rm_agrees_106 : decode b_Rm_agrees 106 = .ok (.istore 5, 2) := by decide +kernel
theorem d_Rm_agrees_108 : decode b_Rm_agrees 108 = .ok (.iinc 6 1, 3) := by decide +kernel
theorem d_Rm_agrees_111 : decode b_Rm_agrees 111 = .ok (.goto (-69), 3) := by decide +kernel
theorem d_Rm_agrees_114 : decode b_Rm_agrees 114 = .ok (.iload 5, 2) := by decide +kernel
theorem d_Rm_agrees_116 : decode b_Rm_agrees 116 = .ok (.sipush (-1000), 3) := by decide +kernel
theorem d_Rm_agrees_119 : decode b_Rm_agrees 119 = .ok (.if_icmp .eq 7, 3) := by decide +kernel
theorem d_Rm_agrees_122 : decode b_Rm_agrees 122 = .ok (.iconst 1, 1) := by decide +kernel
theorem d_Rm_agrees_123 : decode b_Rm_agrees 123 = .ok (.goto 4, 3) := by decide +kernel
theorem d_Rm_agrees_126 : decode b_Rm_agrees 126 = .ok (.iconst 0, 1) := by decide +kernel
theorem d_Rm_agrees_127 : decode b_Rm_agrees 127 = .ok (.ireturn, 1) := by decide +kernel
theorem d_Rm_source_0 : decode b_Rm_source 0 = .ok (.aload_n 0, 1) := by decide +kernel
theorem d_Rm_source_1 : decode b_Rm_source 1 = .ok (.iload_n 1, 1) := by decide +kernel
theorem d_Rm_source_2 : decode b_Rm_source 2 = .ok (.invokevirtual 83, 3) := by decide +kernel
theorem d_Rm_source_5 : decode b_Rm_source 5 = .ok (.astore 4, 2) := by decide +kernel
theorem d_Rm_source_7 : decode b_Rm_source 7 = .ok (.iload_n 3, 1) := by decide +kernel
theorem d_Rm_source_8 : decode b_Rm_source 8 = .ok (.ifCond .ge 13, 3) := by decide +kernel
theorem d_Rm_source_11 : decode b_Rm_source 11 = .ok (.new 90, 3) := by decide +kernel
theorem d_Rm_source_14 : decode b_Rm_source 14 = .ok (.dup, 1) := by decide +kernel
theorem d_Rm_source_15 : decode b_Rm_source 15 = .ok (.ldc 184, 2) := by decide +kernel
theorem d_Rm_source_17 : decode b_Rm_source 17 = .ok (.invokespecial 94, 3) := by decide +kernel
theorem d_Rm_source_20 : decode b_Rm_source 20 = .ok (.athrow, 1) := by decide +kernel
theorem d_Rm_source_21 : decode b_Rm_source 21 = .ok (.iload_n 2, 1) := by decide +kernel
theorem d_Rm_source_22 : decode b_Rm_source 22 = .ok (.invokestatic 175, 3) := by decide +kernel
theorem d_Rm_source_25 : decode b_Rm_source 25 = .ok (.iconst 0, 1) := by decide +kernel
theorem d_Rm_source_26 : decode b_Rm_source 26 = .ok (.istore 5, 2) := by decide +kernel
theorem d_Rm_source_28 : decode b_Rm_source 28 = .ok (.iload 5, 2) := by decide +kernel
theorem d_Rm_source_30 : decode b_Rm_source 30 = .ok (.aload_n 0, 1) := by decide +kernel
theorem d_Rm_source_31 : decode b_Rm_source 31 = .ok (.getfield 32, 3) := by decide +kernel
theorem d_Rm_source_34 : decode b_Rm_source 34 = .ok (.if_icmp .ge 44, 3) := by decide +kernel
theorem d_Rm_source_37 : decode b_Rm_source 37 = .ok (.aload_n 0, 1) := by decide +kernel
theorem d_Rm_source_38 : decode b_Rm_source 38 = .ok (.getfield 59, 3) := by decide +kernel
theorem d_Rm_source_41 : decode b_Rm_source 41 = .ok (.iload 5, 2) := by decide +kernel
theorem d_Rm_source_43 : decode b_Rm_source 43 = .ok (.aload_n 0, 1) := by decide +kernel
theorem d_Rm_source_44 : decode b_Rm_source 44 = .ok (.aload 4, 2) := by decide +kernel
theorem d_Rm_source_46 : decode b_Rm_source 46 = .ok (.aload_n 0, 1) := by decide +kernel
theorem d_Rm_source_47 : decode b_Rm_source 47 = .ok (.getfield 28, 3) := by decide +kernel
theorem d_Rm_source_50 : decode b_Rm_source 50 = .ok (.iload 5, 2) := by decide +kernel
theorem d_Rm_source_52 : decode b_Rm_source 52 = .ok (.aaload, 1) := by decide +kernel
theorem d_Rm_source_53 : decode b_Rm_source 53 = .ok (.iload_n 2, 1) := by decide +kernel
theorem d_Rm_source_54 : decode b_Rm_source 54 = .ok (.invokevirtual 178, 3) := by decide +kernel
theorem d_Rm_source_57 : decode b_Rm_source 57 = .ok (.iastore, 1) := by decide +kernel
theorem d_Rm_source_58 : decode b_Rm_source 58 = .ok (.aload_n 0, 1) := by decide +kernel
theorem d_Rm_source_59 : decode b_Rm_source 59 = .ok (.getfield 55, 3) := by decide +kernel
theorem d_Rm_source_62 : decode b_Rm_source 62 = .ok (.iload 5, 2) := by decide +kernel
theorem d_Rm_source_64 : decode b_Rm_source 64 = .ok (.aaload, 1) := by decide +kernel
theorem d_Rm_source_65 : decode b_Rm_source 65 = .ok (.aload_n 0, 1) := by decide +kernel
theorem d_Rm_source_66 : decode b_Rm_source 66 = .ok (.getfield 52, 3) := by decide +kernel
theorem d_Rm_source_69 : decode b_Rm_source 69 = .ok (.invokevirtual 186, 3) := by decide +kernel
theorem d_Rm_source_72 : decode b_Rm_source 72 = .ok (.iinc 5 1, 3) := by decide +kernel
theorem d_Rm_source_75 : decode b_Rm_source 75 = .ok (.goto (-47), 3) := by decide +kernel
theorem d_Rm_source_78 : decode b_Rm_source 78 = .ok (.iconst 0, 1) := by decide +kernel
theorem d_Rm_source_79 : decode b_Rm_source 79 = .ok (.istore 5, 2) := by decide +kernel
theorem d_Rm_source_81 : decode b_Rm_source 81 = .ok (.iload 5, 2) := by decide +kernel
theorem d_Rm_source_83 : decode b_Rm_source 83 = .ok (.aload_n 0, 1) := by decide +kernel
theorem d_Rm_source_84 : decode b_Rm_source 84 = .ok (.getfield 32, 3) := by decide +kernel
theorem d_Rm_source_87 : decode b_Rm_source 87 = .ok (.if_icmp .ge 35, 3) := by decide +kernel
theorem d_Rm_source_90 : decode b_Rm_source 90 = .ok (.aload_n 0, 1) := by decide +kernel
theorem d_Rm_source_91 : decode b_Rm_source 91 = .ok (.getfield 59, 3) := by decide +kernel
theorem d_Rm_source_94 : decode b_Rm_source 94 = .ok (.iload 5, 2) := by decide +kernel
theorem d_Rm_source_96 : decode b_Rm_source 96 = .ok (.iaload, 1) := by decide +kernel
theorem d_Rm_source_97 : decode b_Rm_source 97 = .ok (.sipush (-1000), 3) := by decide +kernel
theorem d_Rm_source_100 : decode b_Rm_source 100 = .ok (.if_icmp .eq 16, 3) := by decide +kernel
theorem d_Rm_source_103 : decode b_Rm_source 103 = .ok (.aload_n 0, 1) := by decide +kernel
theorem d_Rm_source_104 : decode b_Rm_source 104 = .ok (.iload 5, 2) := by decide +kernel
theorem d_Rm_source_106 : decode b_Rm_source 106 = .ok (.invokevirtual 190, 3) := by decide +kernel
theorem d_Rm_source_109 : decode b_Rm_source 109 = .ok (.iload_n 3, 1) := by decide +kernel
theorem d_Rm_source_110 : decode b_Rm_source 110 = .ok (.if_icmp .ne 6, 3) := by decide +kernel
theorem d_Rm_source_113 : decode b_Rm_source 113 = .ok (.iload 5, 2) := by decide +kernel
theorem d_Rm_source_115 : decode b_Rm_source 115 = .ok (.ireturn, 1) := by decide +kernel
theorem d_Rm_source_116 : decode b_Rm_source 116 = .ok (.iinc 5 1, 3) := by decide +kernel
theorem d_Rm_source_119 : decode b_Rm_source 119 = .ok (.goto (-38), 3) := by decide +kernel
theorem d_Rm_source_122 : decode b_Rm_source 122 = .ok (.iconst (-1), 1) := by decide +kernel
theorem d_Rm_source_123 : decode b_Rm_source 123 = .ok (.ireturn, 1) := by decide +kernel
theorem d_Rm_nearerThan_0 : decode b_Rm_nearerThan 0 = .ok (.iconst 0, 1) := by decide +kernel
theorem d_Rm_nearerThan_1 : decode b_Rm_nearerThan 1 = .ok (.istore_n 2, 1) := by decide +kernel
theorem d_Rm_nearerThan_2 : decode b_Rm_nearerThan 2 = .ok (.iconst 0, 1) := by decide +kernel
theorem d_Rm_nearerThan_3 : decode b_Rm_nearerThan 3 = .ok (.istore_n 3, 1) := by decide +kernel
theorem d_Rm_nearerThan_4 : decode b_Rm_nearerThan 4 = .ok (.iload_n 3, 1) := by decide +kernel
theorem d_Rm_nearerThan_5 : decode b_Rm_nearerThan 5 = .ok (.aload_n 0, 1) := by decide +kernel
theorem d_Rm_nearerThan_6 : decode b_Rm_nearerThan 6 = .ok (.getfield 32, 3) := by decide +kernel
theorem d_Rm_nearerThan_9 : decode b_Rm_nearerThan 9 = .ok (.if_icmp .ge 85, 3) := by decide +kernel
theorem d_Rm_nearerThan_12 : decode b_Rm_nearerThan 12 = .ok (.iload_n 3, 1) := by decide +kernel
theorem d_Rm_nearerThan_13 : decode b_Rm_nearerThan 13 = .ok (.iload_n 1, 1) := by decide +kernel
theorem d_Rm_nearerThan_14 : decode b_Rm_nearerThan 14 = .ok (.if_icmp .eq 74, 3) := by decide +kernel
theorem d_Rm_nearerThan_17 : decode b_Rm_nearerThan 17 = .ok (.aload_n 0, 1) := by decide +kernel
theorem d_Rm_nearerThan_18 : decode b_Rm_nearerThan 18 = .ok (.getfield 59, 3) := by decide +kernel
theorem d_Rm_nearerThan_21 : decode b_Rm_nearerThan 21 = .ok (.iload_n 3, 1) := by decide +kernel
theorem d_Rm_nearerThan_22 : decode b_Rm_nearerThan 22 = .ok (.iaload, 1) := by decide +kernel
theorem d_Rm_nearerThan_23 : decode b_Rm_nearerThan 23 = .ok (.sipush (-1000), 3) := by decide +kernel
theorem d_Rm_nearerThan_26 : decode b_Rm_nearerThan 26 = .ok (.if_icmp .ne 6, 3) := by decide +kernel
theorem d_Rm_nearerThan_29 : decode b_Rm_nearerThan 29 = .ok (.goto 59, 3) := by decide +kernel
theorem d_Rm_nearerThan_32 : decode b_Rm_nearerThan 32 = .ok (.aload_n 0, 1) := by decide +kernel
theorem d_Rm_nearerThan_33 : decode b_Rm_nearerThan 33 = .ok (.getfield 55, 3) := by decide +kernel
theorem d_Rm_nearerThan_36 : decode b_Rm_nearerThan 36 = .ok (.iload_n 1, 1) := by decide +kernel
theorem d_Rm_nearerThan_37 : decode b_Rm_nearerThan 37 = .ok (.aaload, 1) := by decide +kernel
theorem d_Rm_nearerThan_38 : decode b_Rm_nearerThan 38 = .ok (.aload_n 0, 1) := by decide +kernel
theorem d_Rm_nearerThan_39 : decode b_Rm_nearerThan 39 = .ok (.getfield 55, 3) := by decide +kernel
theorem d_Rm_nearerThan_42 : decode b_Rm_nearerThan 42 = .ok (.iload_n 3, 1) := by decide +kernel
theorem d_Rm_nearerThan_43 : decode b_Rm_nearerThan 43 = .ok (.aaload, 1) := by decide +kernel
theorem d_Rm_nearerThan_44 : decode b_Rm_nearerThan 44 = .ok (.invokevirtual 263, 3) := by decide +kernel
theorem d_Rm_nearerThan_47 : decode b_Rm_nearerThan 47 = .ok (.ifCond .ne 7, 3) := by decide +kernel
theorem d_Rm_nearerThan_50 : decode b_Rm_nearerThan 50 = .ok (.iconst 1, 1) := by decide +kernel
theorem d_Rm_nearerThan_51 : decode b_Rm_nearerThan 51 = .ok (.goto 4, 3) := by decide +kernel
theorem d_Rm_nearerThan_54 : decode b_Rm_nearerThan 54 = .ok (.iconst 0, 1) := by decide +kernel
theorem d_Rm_nearerThan_55 : decode b_Rm_nearerThan 55 = .ok (.istore 4, 2) := by decide +kernel
theorem d_Rm_nearerThan_57 : decode b_Rm_nearerThan 57 = .ok (.aload_n 0, 1) := by decide +kernel
theorem d_Rm_nearerThan_58 : decode b_Rm_nearerThan 58 = .ok (.getfield 55, 3) := by decide +kernel
theorem d_Rm_nearerThan_61 : decode b_Rm_nearerThan 61 = .ok (.iload_n 3, 1) := by decide +kernel
theorem d_Rm_nearerThan_62 : decode b_Rm_nearerThan 62 = .ok (.aaload, 1) := by decide +kernel
theorem d_Rm_nearerThan_63 : decode b_Rm_nearerThan 63 = .ok (.aload_n 0, 1) := by decide +kernel
theorem d_Rm_nearerThan_64 : decode b_Rm_nearerThan 64 = .ok (.getfield 55, 3) := by decide +kernel
theorem d_Rm_nearerThan_67 : decode b_Rm_nearerThan 67 = .ok (.iload_n 1, 1) := by decide +kernel
theorem d_Rm_nearerThan_68 : decode b_Rm_nearerThan 68 = .ok (.aaload, 1) := by decide +kernel
theorem d_Rm_nearerThan_69 : decode b_Rm_nearerThan 69 = .ok (.invokevirtual 263, 3) := by decide +kernel
theorem d_Rm_nearerThan_72 : decode b_Rm_nearerThan 72 = .ok (.ifCond .ne 13, 3) := by decide +kernel
theorem d_Rm_nearerThan_75 : decode b_Rm_nearerThan 75 = .ok (.iload 4, 2) := by decide +kernel
theorem d_Rm_nearerThan_77 : decode b_Rm_nearerThan 77 = .ok (.ifCond .eq 11, 3) := by decide +kernel
theorem d_Rm_nearerThan_80 : decode b_Rm_nearerThan 80 = .ok (.iload_n 3, 1) := by decide +kernel
theorem d_Rm_nearerThan_81 : decode b_Rm_nearerThan 81 = .ok (.iload_n 1, 1) := by decide +kernel
theorem d_Rm_nearerThan_82 : decode b_Rm_nearerThan 82 = .ok (.if_icmp .ge 6, 3) := by decide +kernel
theorem d_Rm_nearerThan_85 : decode b_Rm_nearerThan 85 = .ok (.iinc 2 1, 3) := by decide +kernel
theorem d_Rm_nearerThan_88 : decode b_Rm_nearerThan 88 = .ok (.iinc 3 1, 3) := by decide +kernel
theorem d_Rm_nearerThan_91 : decode b_Rm_nearerThan 91 = .ok (.goto (-87), 3) := by decide +kernel
theorem d_Rm_nearerThan_94 : decode b_Rm_nearerThan 94 = .ok (.iload_n 2, 1) := by decide +kernel
theorem d_Rm_nearerThan_95 : decode b_Rm_nearerThan 95 = .ok (.ireturn, 1) := by decide +kernel
theorem d_Rm_sapwood_0 : decode b_Rm_sapwood 0 = .ok (.iload_n 1, 1) := by decide +kernel
theorem d_Rm_sapwood_1 : decode b_Rm_sapwood 1 = .ok (.ifCond .lt 9, 3) := by decide +kernel
theorem d_Rm_sapwood_4 : decode b_Rm_sapwood 4 = .ok (.iload_n 1, 1) := by decide +kernel
theorem d_Rm_sapwood_5 : decode b_Rm_sapwood 5 = .ok (.bipush 60, 2) := by decide +kernel
theorem d_Rm_sapwood_7 : decode b_Rm_sapwood 7 = .ok (.if_icmp .le 13, 3) := by decide +kernel
theorem d_Rm_sapwood_10 : decode b_Rm_sapwood 10 = .ok (.new 69, 3) := by decide +kernel
theorem d_Rm_sapwood_13 : decode b_Rm_sapwood 13 = .ok (.dup, 1) := by decide +kernel
theorem d_Rm_sapwood_14 : decode b_Rm_sapwood 14 = .ok (.ldc 193, 2) := by decide +kernel
theorem d_Rm_sapwood_16 : decode b_Rm_sapwood 16 = .ok (.invokespecial 73, 3) := by decide +kernel
theorem d_Rm_sapwood_19 : decode b_Rm_sapwood 19 = .ok (.athrow, 1) := by decide +kernel
theorem d_Rm_sapwood_20 : decode b_Rm_sapwood 20 = .ok (.iload_n 2, 1) := by decide +kernel
theorem d_Rm_sapwood_21 : decode b_Rm_sapwood 21 = .ok (.ifCond .lt 10, 3) := by decide +kernel
theorem d_Rm_sapwood_24 : decode b_Rm_sapwood 24 = .ok (.iload_n 2, 1) := by decide +kernel
theorem d_Rm_sapwood_25 : decode b_Rm_sapwood 25 = .ok (.sipush 10000, 3) := by decide +kernel
theorem d_Rm_sapwood_28 : decode b_Rm_sapwood 28 = .ok (.if_icmp .le 13, 3) := by decide +kernel
theorem d_Rm_sapwood_31 : decode b_Rm_sapwood 31 = .ok (.new 69, 3) := by decide +kernel
theorem d_Rm_sapwood_34 : decode b_Rm_sapwood 34 = .ok (.dup, 1) := by decide +kernel
theorem d_Rm_sapwood_35 : decode b_Rm_sapwood 35 = .ok (.ldc 195, 2) := by decide +kernel
theorem d_Rm_sapwood_37 : decode b_Rm_sapwood 37 = .ok (.invokespecial 73, 3) := by decide +kernel
theorem d_Rm_sapwood_40 : decode b_Rm_sapwood 40 = .ok (.athrow, 1) := by decide +kernel
theorem d_Rm_sapwood_41 : decode b_Rm_sapwood 41 = .ok (.aload_n 0, 1) := by decide +kernel
theorem d_Rm_sapwood_42 : decode b_Rm_sapwood 42 = .ok (.getfield 35, 3) := by decide +kernel
theorem d_Rm_sapwood_45 : decode b_Rm_sapwood 45 = .ok (.iload_n 1, 1) := by decide +kernel
theorem d_Rm_sapwood_46 : decode b_Rm_sapwood 46 = .ok (.iaload, 1) := by decide +kernel
theorem d_Rm_sapwood_47 : decode b_Rm_sapwood 47 = .ok (.istore_n 3, 1) := by decide +kernel
theorem d_Rm_sapwood_48 : decode b_Rm_sapwood 48 = .ok (.aload_n 0, 1) := by decide +kernel
theorem d_Rm_sapwood_49 : decode b_Rm_sapwood 49 = .ok (.getfield 35, 3) := by decide +kernel
theorem d_Rm_sapwood_52 : decode b_Rm_sapwood 52 = .ok (.iload_n 1, 1) := by decide +kernel
theorem d_Rm_sapwood_53 : decode b_Rm_sapwood 53 = .ok (.iload_n 2, 1) := by decide +kernel
theorem d_Rm_sapwood_54 : decode b_Rm_sapwood 54 = .ok (.iastore, 1) := by decide +kernel
theorem d_Rm_sapwood_55 : decode b_Rm_sapwood 55 = .ok (.iload_n 3, 1) := by decide +kernel
theorem d_Rm_sapwood_56 : decode b_Rm_sapwood 56 = .ok (.ireturn, 1) := by decide +kernel
theorem d_Rm_felling_0 : decode b_Rm_felling 0 = .ok (.aload_n 0, 1) := by decide +kernel
theorem d_Rm_felling_1 : decode b_Rm_felling 1 = .ok (.iload_n 1, 1) := by decide +kernel
theorem d_Rm_felling_2 : decode b_Rm_felling 2 = .ok (.invokevirtual 83, 3) := by decide +kernel
theorem d_Rm_felling_5 : decode b_Rm_felling 5 = .ok (.astore 5, 2) := by decide +kernel
theorem d_Rm_felling_7 : decode b_Rm_felling 7 = .ok (.aload 5, 2) := by decide +kernel
theorem d_Rm_felling_9 : decode b_Rm_felling 9 = .ok (.getfield 97, 3) := by decide +kernel
theorem d_Rm_felling_12 : decode b_Rm_felling 12 = .ok (.iconst (-1), 1) := by decide +kernel
theorem d_Rm_felling_13 : decode b_Rm_felling 13 = .ok (.if_icmp .ne 13, 3) := by decide +kernel
theorem d_Rm_felling_16 : decode b_Rm_felling 16 = .ok (.new 62, 3) := by decide +kernel
theorem d_Rm_felling_19 : decode b_Rm_felling 19 = .ok (.dup, 1) := by decide +kernel
theorem d_Rm_felling_20 : decode b_Rm_felling 20 = .ok (.ldc 197, 2) := by decide +kernel
theorem d_Rm_felling_22 : decode b_Rm_felling 22 = .ok (.invokespecial 66, 3) := by decide +kernel
theorem d_Rm_felling_25 : decode b_Rm_felling 25 = .ok (.athrow, 1) := by decide +kernel
theorem d_Rm_felling_26 : decode b_Rm_felling 26 = .ok (.iload_n 2, 1) := by decide +kernel
theorem d_Rm_felling_27 : decode b_Rm_felling 27 = .ok (.ifCond .lt 13, 3) := by decide +kernel
theorem d_Rm_felling_30 : decode b_Rm_felling 30 = .ok (.iload_n 2, 1) := by decide +kernel
theorem d_Rm_felling_31 : decode b_Rm_felling 31 = .ok (.aload 5, 2) := by decide +kernel
theorem d_Rm_felling_33 : decode b_Rm_felling 33 = .ok (.getfield 87, 3) := by decide +kernel
theorem d_Rm_felling_36 : decode b_Rm_felling 36 = .ok (.arraylength, 1) := by decide +kernel
theorem d_Rm_felling_37 : decode b_Rm_felling 37 = .ok (.if_icmp .le 13, 3) := by decide +kernel
theorem d_Rm_felling_40 : decode b_Rm_felling 40 = .ok (.new 69, 3) := by decide +kernel
theorem d_Rm_felling_43 : decode b_Rm_felling 43 = .ok (.dup, 1) := by decide +kernel
theorem d_Rm_felling_44 : decode b_Rm_felling 44 = .ok (.ldc 199, 2) := by decide +kernel
theorem d_Rm_felling_46 : decode b_Rm_felling 46 = .ok (.invokespecial 73, 3) := by decide +kernel
theorem d_Rm_felling_49 : decode b_Rm_felling 49 = .ok (.athrow, 1) := by decide +kernel
theorem d_Rm_felling_50 : decode b_Rm_felling 50 = .ok (.iload_n 3, 1) := by decide +kernel
theorem d_Rm_felling_51 : decode b_Rm_felling 51 = .ok (.iconst 1, 1) := by decide +kernel
theorem d_Rm_felling_52 : decode b_Rm_felling 52 = .ok (.if_icmp .lt 17, 3) := by decide +kernel
theorem d_Rm_felling_55 : decode b_Rm_felling 55 = .ok (.iload_n 3, 1) := by decide +kernel
theorem d_Rm_felling_56 : decode b_Rm_felling 56 = .ok (.iload 4, 2) := by decide +kernel
theorem d_Rm_felling_58 : decode b_Rm_felling 58 = .ok (.if_icmp .gt 11, 3) := by decide +kernel
theorem d_Rm_felling_61 : decode b_Rm_felling 61 = .ok (.iload 4, 2) := by decide +kernel
theorem d_Rm_felling_63 : decode b_Rm_felling 63 = .ok (.sipush 1000, 3) := by decide +kernel
theorem d_Rm_felling_66 : decode b_Rm_felling 66 = .ok (.if_icmp .le 13, 3) := by decide +kernel
theorem d_Rm_felling_69 : decode b_Rm_felling 69 = .ok (.new 69, 3) := by decide +kernel
theorem d_Rm_felling_72 : decode b_Rm_felling 72 = .ok (.dup, 1) := by decide +kernel
theorem d_Rm_felling_73 : decode b_Rm_felling 73 = .ok (.ldc 201, 2) := by decide +kernel
theorem d_Rm_felling_75 : decode b_Rm_felling 75 = .ok (.invokespecial 73, 3) := by decide +kernel
theorem d_Rm_felling_78 : decode b_Rm_felling 78 = .ok (.athrow, 1) := by decide +kernel
theorem d_Rm_felling_79 : decode b_Rm_felling 79 = .ok (.aload 5, 2) := by decide +kernel
theorem d_Rm_felling_81 : decode b_Rm_felling 81 = .ok (.invokevirtual 203, 3) := by decide +kernel
theorem d_Rm_felling_84 : decode b_Rm_felling 84 = .ok (.iload_n 2, 1) := by decide +kernel
theorem d_Rm_felling_85 : decode b_Rm_felling 85 = .ok (.isub, 1) := by decide +kernel
theorem d_Rm_felling_86 : decode b_Rm_felling 86 = .ok (.istore 6, 2) := by decide +kernel
theorem d_Rm_felling_88 : decode b_Rm_felling 88 = .ok (.aload_n 0, 1) := by decide +kernel
theorem d_Rm_felling_89 : decode b_Rm_felling 89 = .ok (.iload 6, 2) := by decide +kernel
theorem d_Rm_felling_91 : decode b_Rm_felling 91 = .ok (.iload_n 2, 1) := by decide +kernel
theorem d_Rm_felling_92 : decode b_Rm_felling 92 = .ok (.iload_n 3, 1) := by decide +kernel
theorem d_Rm_felling_93 : decode b_Rm_felling 93 = .ok (.iload 4, 2) := by decide +kernel
theorem d_Rm_felling_95 : decode b_Rm_felling 95 = .ok (.invokevirtual 207, 3) := by decide +kernel
theorem d_Rm_felling_98 : decode b_Rm_felling 98 = .ok (.ireturn, 1) := by decide +kernel
theorem d_Rm_shortestYears_0 : decode b_Rm_shortestYears 0 = .ok (.lconst 0, 1) := by decide +kernel
theorem d_Rm_shortestYears_1 : decode b_Rm_shortestYears 1 = .ok (.lstore 5, 2) := by decide +kernel
theorem d_Rm_shortestYears_3 : decode b_Rm_shortestYears 3 = .ok (.iload_n 2, 1) := by decide +kernel
theorem d_Rm_shortestYears_4 : decode b_Rm_shortestYears 4 = .ok (.istore 7, 2) := by decide +kernel
theorem d_Rm_shortestYears_6 : decode b_Rm_shortestYears 6 = .ok (.iload 7, 2) := by decide +kernel
theorem d_Rm_shortestYears_8 : decode b_Rm_shortestYears 8 = .ok (.aload_n 0, 1) := by decide +kernel
theorem d_Rm_shortestYears_9 : decode b_Rm_shortestYears 9 = .ok (.getfield 35, 3) := by decide +kernel
theorem d_Rm_shortestYears_12 : decode b_Rm_shortestYears 12 = .ok (.arraylength, 1) := by decide +kernel
theorem d_Rm_shortestYears_13 : decode b_Rm_shortestYears 13 = .ok (.if_icmp .ge 22, 3) := by decide +kernel
theorem d_Rm_shortestYears_16 : decode b_Rm_shortestYears 16 = .ok (.lload 5, 2) := by decide +kernel
theorem d_Rm_shortestYears_18 : decode b_Rm_shortestYears 18 = .ok (.aload_n 0, 1) := by decide +kernel
theorem d_Rm_shortestYears_19 : decode b_Rm_shortestYears 19 = .ok (.getfield 35, 3) := by decide +kernel
theorem d_Rm_shortestYears_22 : decode b_Rm_shortestYears 22 = .ok (.iload 7, 2) := by decide +kernel
theorem d_Rm_shortestYears_24 : decode b_Rm_shortestYears 24 = .ok (.iaload, 1) := by decide +kernel
theorem d_Rm_shortestYears_25 : decode b_Rm_shortestYears 25 = .ok (.i2l, 1) := by decide +kernel
theorem d_Rm_shortestYears_26 : decode b_Rm_shortestYears 26 = .ok (.ladd, 1) := by decide +kernel
theorem d_Rm_shortestYears_27 : decode b_Rm_shortestYears 27 = .ok (.lstore 5, 2) := by decide +kernel
theorem d_Rm_shortestYears_29 : decode b_Rm_shortestYears 29 = .ok (.iinc 7 1, 3) := by decide +kernel
theorem d_Rm_shortestYears_32 : decode b_Rm_shortestYears 32 = .ok (.goto (-26), 3) := by decide +kernel
theorem d_Rm_shortestYears_35 : decode b_Rm_shortestYears 35 = .ok (.lload 5, 2) := by decide +kernel
theorem d_Rm_shortestYears_37 : decode b_Rm_shortestYears 37 = .ok (.lconst 0, 1) := by decide +kernel
theorem d_Rm_shortestYears_38 : decode b_Rm_shortestYears 38 = .ok (.lcmp, 1) := by decide +kernel
theorem d_Rm_shortestYears_39 : decode b_Rm_shortestYears 39 = .ok (.ifCond .ne 5, 3) := by decide +kernel
theorem d_Rm_shortestYears_42 : decode b_Rm_shortestYears 42 = .ok (.iconst (-1), 1) := by decide +kernel
theorem d_Rm_shortestYears_43 : decode b_Rm_shortestYears 43 = .ok (.ireturn, 1) := by decide +kernel
theorem d_Rm_shortestYears_44 : decode b_Rm_shortestYears 44 = .ok (.iload_n 2, 1) := by decide +kernel
theorem d_Rm_shortestYears_45 : decode b_Rm_shortestYears 45 = .ok (.istore 7, 2) := by decide +kernel
theorem d_Rm_shortestYears_47 : decode b_Rm_shortestYears 47 = .ok (.bipush 60, 2) := by decide +kernel
theorem d_Rm_shortestYears_49 : decode b_Rm_shortestYears 49 = .ok (.istore 8, 2) := by decide +kernel
theorem d_Rm_shortestYears_51 : decode b_Rm_shortestYears 51 = .ok (.iload_n 2, 1) := by decide +kernel
theorem d_Rm_shortestYears_52 : decode b_Rm_shortestYears 52 = .ok (.istore 9, 2) := by decide +kernel
theorem d_Rm_shortestYears_54 : decode b_Rm_shortestYears 54 = .ok (.iload 9, 2) := by decide +kernel
theorem d_Rm_shortestYears_56 : decode b_Rm_shortestYears 56 = .ok (.aload_n 0, 1) := by decide +kernel
theorem d_Rm_shortestYears_57 : decode b_Rm_shortestYears 57 = .ok (.getfield 35, 3) := by decide +kernel
theorem d_Rm_shortestYears_60 : decode b_Rm_shortestYears 60 = .ok (.arraylength, 1) := by decide +kernel
theorem d_Rm_shortestYears_61 : decode b_Rm_shortestYears 61 = .ok (.if_icmp .ge 51, 3) := by decide +kernel
theorem d_Rm_shortestYears_64 : decode b_Rm_shortestYears 64 = .ok (.aload_n 0, 1) := by decide +kernel
theorem d_Rm_shortestYears_65 : decode b_Rm_shortestYears 65 = .ok (.iload 9, 2) := by decide +kernel
theorem d_Rm_shortestYears_67 : decode b_Rm_shortestYears 67 = .ok (.iload_n 3, 1) := by decide +kernel
theorem d_Rm_shortestYears_68 : decode b_Rm_shortestYears 68 = .ok (.i2l, 1) := by decide +kernel
theorem d_Rm_shortestYears_69 : decode b_Rm_shortestYears 69 = .ok (.lload 5, 2) := by decide +kernel
theorem d_Rm_shortestYears_71 : decode b_Rm_shortestYears 71 = .ok (.lmul, 1) := by decide +kernel
theorem d_Rm_shortestYears_72 : decode b_Rm_shortestYears 72 = .ok (.iload 4, 2) := by decide +kernel
theorem d_Rm_shortestYears_74 : decode b_Rm_shortestYears 74 = .ok (.invokevirtual 267, 3) := by decide +kernel
theorem d_Rm_shortestYears_77 : decode b_Rm_shortestYears 77 = .ok (.istore 10, 2) := by decide +kernel
theorem d_Rm_shortestYears_79 : decode b_Rm_shortestYears 79 = .ok (.iload 10, 2) := by decide +kernel
theorem d_Rm_shortestYears_81 : decode b_Rm_shortestYears 81 = .ok (.iconst (-1), 1) := by decide +kernel
theorem d_Rm_shortestYears_82 : decode b_Rm_shortestYears 82 = .ok (.if_icmp .eq 24, 3) := by decide +kernel
theorem d_Rm_shortestYears_85 : decode b_Rm_shortestYears 85 = .ok (.iload 10, 2) := by decide +kernel
theorem d_Rm_shortestYears_87 : decode b_Rm_shortestYears 87 = .ok (.iload 9, 2) := by decide +kernel
theorem d_Rm_shortestYears_89 : decode b_Rm_shortestYears 89 = .ok (.isub, 1) := by decide +kernel
theorem d_Rm_shortestYears_90 : decode b_Rm_shortestYears 90 = .ok (.iload 8, 2) := by decide +kernel
theorem d_Rm_shortestYears_92 : decode b_Rm_shortestYears 92 = .ok (.iload 7, 2) := by decide +kernel
theorem d_Rm_shortestYears_94 : decode b_Rm_shortestYears 94 = .ok (.isub, 1) := by decide +kernel
theorem d_Rm_shortestYears_95 : decode b_Rm_shortestYears 95 = .ok (.if_icmp .ge 11, 3) := by decide +kernel
theorem d_Rm_shortestYears_98 : decode b_Rm_shortestYears 98 = .ok (.iload 9, 2) := by decide +kernel
theorem d_Rm_shortestYears_100 : decode b_Rm_shortestYears 100 = .ok (.istore 7, 2) := by decide +kernel
theorem d_Rm_shortestYears_102 : decode b_Rm_shortestYears 102 = .ok (.iload 10, 2) := by decide +kernel
theorem d_Rm_shortestYears_104 : decode b_Rm_shortestYears 104 = .ok (.istore 8, 2) := by decide +kernel
theorem d_Rm_shortestYears_106 : decode b_Rm_shortestYears 106 = .ok (.iinc 9 1, 3) := by decide +kernel
theorem d_Rm_shortestYears_109 : decode b_Rm_shortestYears 109 = .ok (.goto (-55), 3) := by decide +kernel
theorem d_Rm_shortestYears_112 : decode b_Rm_shortestYears 112 = .ok (.sipush 1000, 3) := by decide +kernel
theorem d_Rm_shortestYears_115 : decode b_Rm_shortestYears 115 = .ok (.iload_n 1, 1) := by decide +kernel
theorem d_Rm_shortestYears_116 : decode b_Rm_shortestYears 116 = .ok (.iload 7, 2) := by decide +kernel
theorem d_Rm_shortestYears_118 : decode b_Rm_shortestYears 118 = .ok (.iadd, 1) := by decide +kernel
theorem d_Rm_shortestYears_119 : decode b_Rm_shortestYears 119 = .ok (.imul, 1) := by decide +kernel
theorem d_Rm_shortestYears_120 : decode b_Rm_shortestYears 120 = .ok (.iload_n 1, 1) := by decide +kernel
theorem d_Rm_shortestYears_121 : decode b_Rm_shortestYears 121 = .ok (.iadd, 1) := by decide +kernel
theorem d_Rm_shortestYears_122 : decode b_Rm_shortestYears 122 = .ok (.iload 8, 2) := by decide +kernel
theorem d_Rm_shortestYears_124 : decode b_Rm_shortestYears 124 = .ok (.iadd, 1) := by decide +kernel
theorem d_Rm_shortestYears_125 : decode b_Rm_shortestYears 125 = .ok (.ireturn, 1) := by decide +kernel
theorem d_Rm_endOfShare_0 : decode b_Rm_endOfShare 0 = .ok (.lconst 0, 1) := by decide +kernel
theorem d_Rm_endOfShare_1 : decode b_Rm_endOfShare 1 = .ok (.lstore 5, 2) := by decide +kernel
theorem d_Rm_endOfShare_3 : decode b_Rm_endOfShare 3 = .ok (.iload_n 1, 1) := by decide +kernel
theorem d_Rm_endOfShare_4 : decode b_Rm_endOfShare 4 = .ok (.istore 7, 2) := by decide +kernel
theorem d_Rm_endOfShare_6 : decode b_Rm_endOfShare 6 = .ok (.iload 7, 2) := by decide +kernel
theorem d_Rm_endOfShare_8 : decode b_Rm_endOfShare 8 = .ok (.aload_n 0, 1) := by decide +kernel
theorem d_Rm_endOfShare_9 : decode b_Rm_endOfShare 9 = .ok (.getfield 35, 3) := by decide +kernel
theorem d_Rm_endOfShare_12 : decode b_Rm_endOfShare 12 = .ok (.arraylength, 1) := by decide +kernel
theorem d_Rm_endOfShare_13 : decode b_Rm_endOfShare 13 = .ok (.if_icmp .ge 36, 3) := by decide +kernel
theorem d_Rm_endOfShare_16 : decode b_Rm_endOfShare 16 = .ok (.lload 5, 2) := by decide +kernel
theorem d_Rm_endOfShare_18 : decode b_Rm_endOfShare 18 = .ok (.aload_n 0, 1) := by decide +kernel
theorem d_Rm_endOfShare_19 : decode b_Rm_endOfShare 19 = .ok (.getfield 35, 3) := by decide +kernel
theorem d_Rm_endOfShare_22 : decode b_Rm_endOfShare 22 = .ok (.iload 7, 2) := by decide +kernel
theorem d_Rm_endOfShare_24 : decode b_Rm_endOfShare 24 = .ok (.iaload, 1) := by decide +kernel
theorem d_Rm_endOfShare_25 : decode b_Rm_endOfShare 25 = .ok (.i2l, 1) := by decide +kernel
theorem d_Rm_endOfShare_26 : decode b_Rm_endOfShare 26 = .ok (.ladd, 1) := by decide +kernel
theorem d_Rm_endOfShare_27 : decode b_Rm_endOfShare 27 = .ok (.lstore 5, 2) := by decide +kernel
theorem d_Rm_endOfShare_29 : decode b_Rm_endOfShare 29 = .ok (.lload 5, 2) := by decide +kernel
theorem d_Rm_endOfShare_31 : decode b_Rm_endOfShare 31 = .ok (.iload 4, 2) := by decide +kernel
theorem d_Rm_endOfShare_33 : decode b_Rm_endOfShare 33 = .ok (.i2l, 1) := by decide +kernel
theorem d_Rm_endOfShare_34 : decode b_Rm_endOfShare 34 = .ok (.lmul, 1) := by decide +kernel
theorem d_Rm_endOfShare_35 : decode b_Rm_endOfShare 35 = .ok (.lload_n 2, 1) := by decide +kernel
theorem d_Rm_endOfShare_36 : decode b_Rm_endOfShare 36 = .ok (.lcmp, 1) := by decide +kernel
theorem d_Rm_endOfShare_37 : decode b_Rm_endOfShare 37 = .ok (.ifCond .lt 6, 3) := by decide +kernel
theorem d_Rm_endOfShare_40 : decode b_Rm_endOfShare 40 = .ok (.iload 7, 2) := by decide +kernel
theorem d_Rm_endOfShare_42 : decode b_Rm_endOfShare 42 = .ok (.ireturn, 1) := by decide +kernel
theorem d_Rm_endOfShare_43 : decode b_Rm_endOfShare 43 = .ok (.iinc 7 1, 3) := by decide +kernel
theorem d_Rm_endOfShare_46 : decode b_Rm_endOfShare 46 = .ok (.goto (-40), 3) := by decide +kernel
theorem d_Rm_endOfShare_49 : decode b_Rm_endOfShare 49 = .ok (.iconst (-1), 1) := by decide +kernel
theorem d_Rm_endOfShare_50 : decode b_Rm_endOfShare 50 = .ok (.ireturn, 1) := by decide +kernel
theorem d_Rm_sameTree_0 : decode b_Rm_sameTree 0 = .ok (.aload_n 0, 1) := by decide +kernel
theorem d_Rm_sameTree_1 : decode b_Rm_sameTree 1 = .ok (.iload_n 1, 1) := by decide +kernel
theorem d_Rm_sameTree_2 : decode b_Rm_sameTree 2 = .ok (.invokevirtual 83, 3) := by decide +kernel
theorem d_Rm_sameTree_5 : decode b_Rm_sameTree 5 = .ok (.astore_n 3, 1) := by decide +kernel
theorem d_Rm_sameTree_6 : decode b_Rm_sameTree 6 = .ok (.aload_n 0, 1) := by decide +kernel
theorem d_Rm_sameTree_7 : decode b_Rm_sameTree 7 = .ok (.iload_n 2, 1) := by decide +kernel
theorem d_Rm_sameTree_8 : decode b_Rm_sameTree 8 = .ok (.invokevirtual 83, 3) := by decide +kernel
theorem d_Rm_sameTree_11 : decode b_Rm_sameTree 11 = .ok (.astore 4, 2) := by decide +kernel
theorem d_Rm_sameTree_13 : decode b_Rm_sameTree 13 = .ok (.aload_n 3, 1) := by decide +kernel
theorem d_Rm_sameTree_14 : decode b_Rm_sameTree 14 = .ok (.getfield 97, 3) := by decide +kernel
theorem d_Rm_sameTree_17 : decode b_Rm_sameTree 17 = .ok (.iconst (-1), 1) := by decide +kernel
theorem d_Rm_sameTree_18 : decode b_Rm_sameTree 18 = .ok (.if_icmp .eq 12, 3) := by decide +kernel
theorem d_Rm_sameTree_21 : decode b_Rm_sameTree 21 = .ok (.aload 4, 2) := by decide +kernel
theorem d_Rm_sameTree_23 : decode b_Rm_sameTree 23 = .ok (.getfield 97, 3) := by decide +kernel
theorem d_Rm_sameTree_26 : decode b_Rm_sameTree 26 = .ok (.iconst (-1), 1) := by decide +kernel

theorem d_Rm_firstYearOf_28 : decode b_Rm_firstYearOf 28 = .ok (.iload_n 3, 1) := by decide +kernel
theorem d_Rm_firstYearOf_29 : decode b_Rm_firstYearOf 29 = .ok (.aaload, 1) := by decide +kernel
theorem d_Rm_firstYearOf_30 : decode b_Rm_firstYearOf 30 = .ok (.getfield 97, 3) := by decide +kernel
theorem d_Rm_firstYearOf_33 : decode b_Rm_firstYearOf 33 = .ok (.invokestatic 235, 3) := by decide +kernel
theorem d_Rm_firstYearOf_36 : decode b_Rm_firstYearOf 36 = .ok (.istore_n 2, 1) := by decide +kernel
theorem d_Rm_firstYearOf_37 : decode b_Rm_firstYearOf 37 = .ok (.iinc 3 1, 3) := by decide +kernel
theorem d_Rm_firstYearOf_40 : decode b_Rm_firstYearOf 40 = .ok (.goto (-34), 3) := by decide +kernel
theorem d_Rm_firstYearOf_43 : decode b_Rm_firstYearOf 43 = .ok (.iload_n 2, 1) := by decide +kernel
theorem d_Rm_firstYearOf_44 : decode b_Rm_firstYearOf 44 = .ok (.ireturn, 1) := by decide +kernel
theorem d_Rm_lastYearOf_0 : decode b_Rm_lastYearOf 0 = .ok (.iconst 0, 1) := by decide +kernel
theorem d_Rm_lastYearOf_1 : decode b_Rm_lastYearOf 1 = .ok (.istore_n 2, 1) := by decide +kernel
theorem d_Rm_lastYearOf_2 : decode b_Rm_lastYearOf 2 = .ok (.iconst 0, 1) := by decide +kernel
theorem d_Rm_lastYearOf_3 : decode b_Rm_lastYearOf 3 = .ok (.istore_n 3, 1) := by decide +kernel
theorem d_Rm_lastYearOf_4 : decode b_Rm_lastYearOf 4 = .ok (.iload_n 3, 1) := by decide +kernel
theorem d_Rm_lastYearOf_5 : decode b_Rm_lastYearOf 5 = .ok (.aload_n 0, 1) := by decide +kernel
theorem d_Rm_lastYearOf_6 : decode b_Rm_lastYearOf 6 = .ok (.getfield 23, 3) := by decide +kernel
theorem d_Rm_lastYearOf_9 : decode b_Rm_lastYearOf 9 = .ok (.if_icmp .ge 32, 3) := by decide +kernel
theorem d_Rm_lastYearOf_12 : decode b_Rm_lastYearOf 12 = .ok (.iload_n 1, 1) := by decide +kernel
theorem d_Rm_lastYearOf_13 : decode b_Rm_lastYearOf 13 = .ok (.iload_n 3, 1) := by decide +kernel
theorem d_Rm_lastYearOf_14 : decode b_Rm_lastYearOf 14 = .ok (.ishr, 1) := by decide +kernel
theorem d_Rm_lastYearOf_15 : decode b_Rm_lastYearOf 15 = .ok (.iconst 1, 1) := by decide +kernel
theorem d_Rm_lastYearOf_16 : decode b_Rm_lastYearOf 16 = .ok (.iand, 1) := by decide +kernel
theorem d_Rm_lastYearOf_17 : decode b_Rm_lastYearOf 17 = .ok (.iconst 1, 1) := by decide +kernel
theorem d_Rm_lastYearOf_18 : decode b_Rm_lastYearOf 18 = .ok (.if_icmp .ne 17, 3) := by decide +kernel
theorem d_Rm_lastYearOf_21 : decode b_Rm_lastYearOf 21 = .ok (.iload_n 2, 1) := by decide +kernel
theorem d_Rm_lastYearOf_22 : decode b_Rm_lastYearOf 22 = .ok (.aload_n 0, 1) := by decide +kernel
theorem d_Rm_lastYearOf_23 : decode b_Rm_lastYearOf 23 = .ok (.getfield 19, 3) := by decide +kernel
theorem d_Rm_lastYearOf_26 : decode b_Rm_lastYearOf 26 = .ok (.iload_n 3, 1) := by decide +kernel
theorem d_Rm_lastYearOf_27 : decode b_Rm_lastYearOf 27 = .ok (.aaload, 1) := by decide +kernel
theorem d_Rm_lastYearOf_28 : decode b_Rm_lastYearOf 28 = .ok (.invokevirtual 203, 3) := by decide +kernel
theorem d_Rm_lastYearOf_31 : decode b_Rm_lastYearOf 31 = .ok (.invokestatic 246, 3) := by decide +kernel
theorem d_Rm_lastYearOf_34 : decode b_Rm_lastYearOf 34 = .ok (.istore_n 2, 1) := by decide +kernel
theorem d_Rm_lastYearOf_35 : decode b_Rm_lastYearOf 35 = .ok (.iinc 3 1, 3) := by decide +kernel
theorem d_Rm_lastYearOf_38 : decode b_Rm_lastYearOf 38 = .ok (.goto (-34), 3) := by decide +kernel
theorem d_Rm_lastYearOf_41 : decode b_Rm_lastYearOf 41 = .ok (.iload_n 2, 1) := by decide +kernel
theorem d_Rm_lastYearOf_42 : decode b_Rm_lastYearOf 42 = .ok (.ireturn, 1) := by decide +kernel
theorem d_Rm_fillValues_0 : decode b_Rm_fillValues 0 = .ok (.iconst 0, 1) := by decide +kernel
theorem d_Rm_fillValues_1 : decode b_Rm_fillValues 1 = .ok (.istore_n 2, 1) := by decide +kernel
theorem d_Rm_fillValues_2 : decode b_Rm_fillValues 2 = .ok (.iload_n 2, 1) := by decide +kernel
theorem d_Rm_fillValues_3 : decode b_Rm_fillValues 3 = .ok (.aload_n 1, 1) := by decide +kernel
theorem d_Rm_fillValues_4 : decode b_Rm_fillValues 4 = .ok (.getfield 145, 3) := by decide +kernel
theorem d_Rm_fillValues_7 : decode b_Rm_fillValues 7 = .ok (.arraylength, 1) := by decide +kernel
theorem d_Rm_fillValues_8 : decode b_Rm_fillValues 8 = .ok (.if_icmp .ge 50, 3) := by decide +kernel
theorem d_Rm_fillValues_11 : decode b_Rm_fillValues 11 = .ok (.aload_n 0, 1) := by decide +kernel
theorem d_Rm_fillValues_12 : decode b_Rm_fillValues 12 = .ok (.aload_n 1, 1) := by decide +kernel
theorem d_Rm_fillValues_13 : decode b_Rm_fillValues 13 = .ok (.getfield 159, 3) := by decide +kernel
theorem d_Rm_fillValues_16 : decode b_Rm_fillValues 16 = .ok (.aload_n 1, 1) := by decide +kernel
theorem d_Rm_fillValues_17 : decode b_Rm_fillValues 17 = .ok (.getfield 134, 3) := by decide +kernel
theorem d_Rm_fillValues_20 : decode b_Rm_fillValues 20 = .ok (.iload_n 2, 1) := by decide +kernel
theorem d_Rm_fillValues_21 : decode b_Rm_fillValues 21 = .ok (.iadd, 1) := by decide +kernel
theorem d_Rm_fillValues_22 : decode b_Rm_fillValues 22 = .ok (.iconst (-1), 1) := by decide +kernel
theorem d_Rm_fillValues_23 : decode b_Rm_fillValues 23 = .ok (.invokevirtual 249, 3) := by decide +kernel
theorem d_Rm_fillValues_26 : decode b_Rm_fillValues 26 = .ok (.aload_n 1, 1) := by decide +kernel
theorem d_Rm_fillValues_27 : decode b_Rm_fillValues 27 = .ok (.getfield 145, 3) := by decide +kernel
theorem d_Rm_fillValues_30 : decode b_Rm_fillValues 30 = .ok (.iload_n 2, 1) := by decide +kernel
theorem d_Rm_fillValues_31 : decode b_Rm_fillValues 31 = .ok (.aload_n 0, 1) := by decide +kernel
theorem d_Rm_fillValues_32 : decode b_Rm_fillValues 32 = .ok (.getfield 41, 3) := by decide +kernel
theorem d_Rm_fillValues_35 : decode b_Rm_fillValues 35 = .ok (.invokevirtual 253, 3) := by decide +kernel
theorem d_Rm_fillValues_38 : decode b_Rm_fillValues 38 = .ok (.iastore, 1) := by decide +kernel
theorem d_Rm_fillValues_39 : decode b_Rm_fillValues 39 = .ok (.aload_n 1, 1) := by decide +kernel
theorem d_Rm_fillValues_40 : decode b_Rm_fillValues 40 = .ok (.getfield 152, 3) := by decide +kernel
theorem d_Rm_fillValues_43 : decode b_Rm_fillValues 43 = .ok (.iload_n 2, 1) := by decide +kernel
theorem d_Rm_fillValues_44 : decode b_Rm_fillValues 44 = .ok (.aload_n 0, 1) := by decide +kernel
theorem d_Rm_fillValues_45 : decode b_Rm_fillValues 45 = .ok (.getfield 41, 3) := by decide +kernel
theorem d_Rm_fillValues_48 : decode b_Rm_fillValues 48 = .ok (.getfield 256, 3) := by decide +kernel
theorem d_Rm_fillValues_51 : decode b_Rm_fillValues 51 = .ok (.iastore, 1) := by decide +kernel
theorem d_Rm_fillValues_52 : decode b_Rm_fillValues 52 = .ok (.iinc 2 1, 3) := by decide +kernel
theorem d_Rm_fillValues_55 : decode b_Rm_fillValues 55 = .ok (.goto (-53), 3) := by decide +kernel
theorem d_Rm_fillValues_58 : decode b_Rm_fillValues 58 = .ok (.return_, 1) := by decide +kernel
theorem d_Rm_gather_0 : decode b_Rm_gather 0 = .ok (.aload_n 0, 1) := by decide +kernel
theorem d_Rm_gather_1 : decode b_Rm_gather 1 = .ok (.getfield 41, 3) := by decide +kernel
theorem d_Rm_gather_4 : decode b_Rm_gather 4 = .ok (.invokevirtual 259, 3) := by decide +kernel
theorem d_Rm_gather_7 : decode b_Rm_gather 7 = .ok (.iconst 0, 1) := by decide +kernel
theorem d_Rm_gather_8 : decode b_Rm_gather 8 = .ok (.istore 4, 2) := by decide +kernel
theorem d_Rm_gather_10 : decode b_Rm_gather 10 = .ok (.iload 4, 2) := by decide +kernel
theorem d_Rm_gather_12 : decode b_Rm_gather 12 = .ok (.aload_n 1, 1) := by decide +kernel
theorem d_Rm_gather_13 : decode b_Rm_gather 13 = .ok (.arraylength, 1) := by decide +kernel
theorem d_Rm_gather_14 : decode b_Rm_gather 14 = .ok (.if_icmp .ge 67, 3) := by decide +kernel
theorem d_Rm_gather_17 : decode b_Rm_gather 17 = .ok (.iload 4, 2) := by decide +kernel
theorem d_Rm_gather_19 : decode b_Rm_gather 19 = .ok (.aload_n 0, 1) := by decide +kernel
theorem d_Rm_gather_20 : decode b_Rm_gather 20 = .ok (.getfield 23, 3) := by decide +kernel
theorem d_Rm_gather_23 : decode b_Rm_gather 23 = .ok (.if_icmp .ge 58, 3) := by decide +kernel
theorem d_Rm_gather_26 : decode b_Rm_gather 26 = .ok (.iload 4, 2) := by decide +kernel
theorem d_Rm_gather_28 : decode b_Rm_gather 28 = .ok (.iload_n 3, 1) := by decide +kernel
theorem d_Rm_gather_29 : decode b_Rm_gather 29 = .ok (.if_icmp .eq 46, 3) := by decide +kernel
theorem d_Rm_gather_32 : decode b_Rm_gather 32 = .ok (.aload_n 1, 1) := by decide +kernel
theorem d_Rm_gather_33 : decode b_Rm_gather 33 = .ok (.iload 4, 2) := by decide +kernel
theorem d_Rm_gather_35 : decode b_Rm_gather 35 = .ok (.iaload, 1) := by decide +kernel
theorem d_Rm_gather_36 : decode b_Rm_gather 36 = .ok (.iconst (-1), 1) := by decide +kernel
theorem d_Rm_gather_37 : decode b_Rm_gather 37 = .ok (.if_icmp .ne 6, 3) := by decide +kernel
theorem d_Rm_gather_40 : decode b_Rm_gather 40 = .ok (.goto 35, 3) := by decide +kernel
theorem d_Rm_gather_43 : decode b_Rm_gather 43 = .ok (.aload_n 0, 1) := by decide +kernel
theorem d_Rm_gather_44 : decode b_Rm_gather 44 = .ok (.getfield 19, 3) := by decide +kernel
theorem d_Rm_gather_47 : decode b_Rm_gather 47 = .ok (.iload 4, 2) := by decide +kernel
theorem d_Rm_gather_49 : decode b_Rm_gather 49 = .ok (.aaload, 1) := by decide +kernel
theorem d_Rm_gather_50 : decode b_Rm_gather 50 = .ok (.iload_n 2, 1) := by decide +kernel
theorem d_Rm_gather_51 : decode b_Rm_gather 51 = .ok (.aload_n 1, 1) := by decide +kernel
theorem d_Rm_gather_52 : decode b_Rm_gather 52 = .ok (.iload 4, 2) := by decide +kernel
theorem d_Rm_gather_54 : decode b_Rm_gather 54 = .ok (.iaload, 1) := by decide +kernel
theorem d_Rm_gather_55 : decode b_Rm_gather 55 = .ok (.invokevirtual 214, 3) := by decide +kernel
theorem d_Rm_gather_58 : decode b_Rm_gather 58 = .ok (.istore 5, 2) := by decide +kernel
theorem d_Rm_gather_60 : decode b_Rm_gather 60 = .ok (.iload 5, 2) := by decide +kernel
theorem d_Rm_gather_62 : decode b_Rm_gather 62 = .ok (.iconst (-1), 1) := by decide +kernel
theorem d_Rm_gather_63 : decode b_Rm_gather 63 = .ok (.if_icmp .eq 12, 3) := by decide +kernel
theorem d_Rm_gather_66 : decode b_Rm_gather 66 = .ok (.aload_n 0, 1) := by decide +kernel
theorem d_Rm_gather_67 : decode b_Rm_gather 67 = .ok (.getfield 41, 3) := by decide +kernel
theorem d_Rm_gather_70 : decode b_Rm_gather 70 = .ok (.iload 5, 2) := by decide +kernel
theorem d_Rm_gather_72 : decode b_Rm_gather 72 = .ok (.invokevirtual 260, 3) := by decide +kernel
theorem d_Rm_gather_75 : decode b_Rm_gather 75 = .ok (.iinc 4 1, 3) := by decide +kernel
theorem d_Rm_gather_78 : decode b_Rm_gather 78 = .ok (.goto (-68), 3) := by decide +kernel
theorem d_Rm_gather_81 : decode b_Rm_gather 81 = .ok (.return_, 1) := by decide +kernel
theorem d_Rm_about_0 : decode b_Rm_about 0 = .ok (.aload_n 0, 1) := by decide +kernel
theorem d_Rm_about_1 : decode b_Rm_about 1 = .ok (.iload_n 1, 1) := by decide +kernel
theorem d_Rm_about_2 : decode b_Rm_about 2 = .ok (.invokevirtual 130, 3) := by decide +kernel
theorem d_Rm_about_5 : decode b_Rm_about 5 = .ok (.astore_n 3, 1) := by decide +kernel
theorem d_Rm_about_6 : decode b_Rm_about 6 = .ok (.iload_n 2, 1) := by decide +kernel
theorem d_Rm_about_7 : decode b_Rm_about 7 = .ok (.tableswitch 40 0 2 #[25, 30, 35], 25) := by decide +kernel
theorem d_Rm_about_32 : decode b_Rm_about 32 = .ok (.aload_n 3, 1) := by decide +kernel
theorem d_Rm_about_33 : decode b_Rm_about 33 = .ok (.getfield 134, 3) := by decide +kernel
theorem d_Rm_about_36 : decode b_Rm_about 36 = .ok (.ireturn, 1) := by decide +kernel
theorem d_Rm_about_37 : decode b_Rm_about 37 = .ok (.aload_n 3, 1) := by decide +kernel
theorem d_Rm_about_38 : decode b_Rm_about 38 = .ok (.getfield 137, 3) := by decide +kernel
theorem d_Rm_about_41 : decode b_Rm_about 41 = .ok (.ireturn, 1) := by decide +kernel
theorem d_Rm_about_42 : decode b_Rm_about 42 = .ok (.aload_n 3, 1) := by decide +kernel
theorem d_Rm_about_43 : decode b_Rm_about 43 = .ok (.getfield 140, 3) := by decide +kernel
theorem d_Rm_about_46 : decode b_Rm_about 46 = .ok (.ireturn, 1) := by decide +kernel
theorem d_Rm_about_47 : decode b_Rm_about 47 = .ok (.new 90, 3) := by decide +kernel
theorem d_Rm_about_50 : decode b_Rm_about 50 = .ok (.dup, 1) := by decide +kernel
theorem d_Rm_about_51 : decode b_Rm_about 51 = .ok (.ldc 143, 2) := by decide +kernel
theorem d_Rm_about_53 : decode b_Rm_about 53 = .ok (.invokespecial 94, 3) := by decide +kernel
theorem d_Rm_about_56 : decode b_Rm_about 56 = .ok (.athrow, 1) := by decide +kernel
theorem d_Rm_meanOf_0 : decode b_Rm_meanOf 0 = .ok (.iload_n 1, 1) := by decide +kernel
theorem d_Rm_meanOf_1 : decode b_Rm_meanOf 1 = .ok (.ifCond .lt 11, 3) := by decide +kernel
theorem d_Rm_meanOf_4 : decode b_Rm_meanOf 4 = .ok (.iload_n 1, 1) := by decide +kernel
theorem d_Rm_meanOf_5 : decode b_Rm_meanOf 5 = .ok (.aload_n 0, 1) := by decide +kernel
theorem d_Rm_meanOf_6 : decode b_Rm_meanOf 6 = .ok (.getfield 32, 3) := by decide +kernel
theorem d_Rm_meanOf_9 : decode b_Rm_meanOf 9 = .ok (.if_icmp .lt 13, 3) := by decide +kernel
theorem d_Rm_meanOf_12 : decode b_Rm_meanOf 12 = .ok (.new 90, 3) := by decide +kernel
theorem d_Rm_meanOf_15 : decode b_Rm_meanOf 15 = .ok (.dup, 1) := by decide +kernel
theorem d_Rm_meanOf_16 : decode b_Rm_meanOf 16 = .ok (.ldc 182, 2) := by decide +kernel
theorem d_Rm_meanOf_18 : decode b_Rm_meanOf 18 = .ok (.invokespecial 94, 3) := by decide +kernel
theorem d_Rm_meanOf_21 : decode b_Rm_meanOf 21 = .ok (.athrow, 1) := by decide +kernel
theorem d_Rm_meanOf_22 : decode b_Rm_meanOf 22 = .ok (.aload_n 0, 1) := by decide +kernel
theorem d_Rm_meanOf_23 : decode b_Rm_meanOf 23 = .ok (.getfield 28, 3) := by decide +kernel
theorem d_Rm_meanOf_26 : decode b_Rm_meanOf 26 = .ok (.iload_n 1, 1) := by decide +kernel
theorem d_Rm_meanOf_27 : decode b_Rm_meanOf 27 = .ok (.aaload, 1) := by decide +kernel
theorem d_Rm_meanOf_28 : decode b_Rm_meanOf 28 = .ok (.areturn, 1) := by decide +kernel
theorem d_Rm_at_0 : decode b_Rm_at 0 = .ok (.aload_n 0, 1) := by decide +kernel
theorem d_Rm_at_1 : decode b_Rm_at 1 = .ok (.iload_n 1, 1) := by decide +kernel
theorem d_Rm_at_2 : decode b_Rm_at 2 = .ok (.invokevirtual 130, 3) := by decide +kernel
theorem d_Rm_at_5 : decode b_Rm_at 5 = .ok (.astore_n 3, 1) := by decide +kernel
theorem d_Rm_at_6 : decode b_Rm_at 6 = .ok (.aload_n 3, 1) := by decide +kernel
theorem d_Rm_at_7 : decode b_Rm_at 7 = .ok (.getfield 145, 3) := by decide +kernel
theorem d_Rm_at_10 : decode b_Rm_at 10 = .ok (.aload_n 3, 1) := by decide +kernel
theorem d_Rm_at_11 : decode b_Rm_at 11 = .ok (.iload_n 2, 1) := by decide +kernel
theorem d_Rm_at_12 : decode b_Rm_at 12 = .ok (.invokestatic 148, 3) := by decide +kernel
theorem d_Rm_at_15 : decode b_Rm_at 15 = .ok (.iaload, 1) := by decide +kernel
theorem d_Rm_at_16 : decode b_Rm_at 16 = .ok (.ireturn, 1) := by decide +kernel
theorem d_Rm_placeInMaster_0 : decode b_Rm_placeInMaster 0 = .ok (.iload_n 1, 1) := by decide +kernel
theorem d_Rm_placeInMaster_1 : decode b_Rm_placeInMaster 1 = .ok (.aload_n 0, 1) := by decide +kernel
theorem d_Rm_placeInMaster_2 : decode b_Rm_placeInMaster 2 = .ok (.getfield 134, 3) := by decide +kernel
theorem d_Rm_placeInMaster_5 : decode b_Rm_placeInMaster 5 = .ok (.if_icmp .lt 11, 3) := by decide +kernel
theorem d_Rm_placeInMaster_8 : decode b_Rm_placeInMaster 8 = .ok (.iload_n 1, 1) := by decide +kernel
theorem d_Rm_placeInMaster_9 : decode b_Rm_placeInMaster 9 = .ok (.aload_n 0, 1) := by decide +kernel
theorem d_Rm_placeInMaster_10 : decode b_Rm_placeInMaster 10 = .ok (.getfield 137, 3) := by decide +kernel
theorem d_Rm_placeInMaster_13 : decode b_Rm_placeInMaster 13 = .ok (.if_icmp .le 13, 3) := by decide +kernel
theorem d_Rm_placeInMaster_16 : decode b_Rm_placeInMaster 16 = .ok (.new 90, 3) := by decide +kernel
theorem d_Rm_placeInMaster_19 : decode b_Rm_placeInMaster 19 = .ok (.dup, 1) := by decide +kernel
theorem d_Rm_placeInMaster_20 : decode b_Rm_placeInMaster 20 = .ok (.ldc 95, 2) := by decide +kernel
theorem d_Rm_placeInMaster_22 : decode b_Rm_placeInMaster 22 = .ok (.invokespecial 94, 3) := by decide +kernel
theorem d_Rm_placeInMaster_25 : decode b_Rm_placeInMaster 25 = .ok (.athrow, 1) := by decide +kernel
theorem d_Rm_placeInMaster_26 : decode b_Rm_placeInMaster 26 = .ok (.iload_n 1, 1) := by decide +kernel
theorem d_Rm_placeInMaster_27 : decode b_Rm_placeInMaster 27 = .ok (.aload_n 0, 1) := by decide +kernel
theorem d_Rm_placeInMaster_28 : decode b_Rm_placeInMaster 28 = .ok (.getfield 134, 3) := by decide +kernel
theorem d_Rm_placeInMaster_31 : decode b_Rm_placeInMaster 31 = .ok (.isub, 1) := by decide +kernel
theorem d_Rm_placeInMaster_32 : decode b_Rm_placeInMaster 32 = .ok (.ireturn, 1) := by decide +kernel
theorem d_Rm_depth_0 : decode b_Rm_depth 0 = .ok (.aload_n 0, 1) := by decide +kernel
theorem d_Rm_depth_1 : decode b_Rm_depth 1 = .ok (.iload_n 1, 1) := by decide +kernel
theorem d_Rm_depth_2 : decode b_Rm_depth 2 = .ok (.invokevirtual 130, 3) := by decide +kernel
theorem d_Rm_depth_5 : decode b_Rm_depth 5 = .ok (.astore_n 3, 1) := by decide +kernel
theorem d_Rm_depth_6 : decode b_Rm_depth 6 = .ok (.aload_n 3, 1) := by decide +kernel
theorem d_Rm_depth_7 : decode b_Rm_depth 7 = .ok (.getfield 152, 3) := by decide +kernel
theorem d_Rm_depth_10 : decode b_Rm_depth 10 = .ok (.aload_n 3, 1) := by decide +kernel
theorem d_Rm_depth_11 : decode b_Rm_depth 11 = .ok (.iload_n 2, 1) := by decide +kernel
theorem d_Rm_depth_12 : decode b_Rm_depth 12 = .ok (.invokestatic 148, 3) := by decide +kernel
theorem d_Rm_depth_15 : decode b_Rm_depth 15 = .ok (.iaload, 1) := by decide +kernel
theorem d_Rm_depth_16 : decode b_Rm_depth 16 = .ok (.ireturn, 1) := by decide +kernel
theorem d_Rm_leftOut_0 : decode b_Rm_leftOut 0 = .ok (.aload_n 0, 1) := by decide +kernel
theorem d_Rm_leftOut_1 : decode b_Rm_leftOut 1 = .ok (.iload_n 1, 1) := by decide +kernel
theorem d_Rm_leftOut_2 : decode b_Rm_leftOut 2 = .ok (.invokevirtual 130, 3) := by decide +kernel
theorem d_Rm_leftOut_5 : decode b_Rm_leftOut 5 = .ok (.astore 4, 2) := by decide +kernel
theorem d_Rm_leftOut_7 : decode b_Rm_leftOut 7 = .ok (.iload_n 3, 1) := by decide +kernel
theorem d_Rm_leftOut_8 : decode b_Rm_leftOut 8 = .ok (.invokestatic 155, 3) := by decide +kernel
theorem d_Rm_leftOut_11 : decode b_Rm_leftOut 11 = .ok (.iload_n 2, 1) := by decide +kernel
theorem d_Rm_leftOut_12 : decode b_Rm_leftOut 12 = .ok (.ifCond .lt 24, 3) := by decide +kernel
theorem d_Rm_leftOut_15 : decode b_Rm_leftOut 15 = .ok (.iload_n 2, 1) := by decide +kernel
theorem d_Rm_leftOut_16 : decode b_Rm_leftOut 16 = .ok (.aload 4, 2) := by decide +kernel
theorem d_Rm_leftOut_18 : decode b_Rm_leftOut 18 = .ok (.getfield 159, 3) := by decide +kernel
theorem d_Rm_leftOut_21 : decode b_Rm_leftOut 21 = .ok (.arraylength, 1) := by decide +kernel
theorem d_Rm_leftOut_22 : decode b_Rm_leftOut 22 = .ok (.if_icmp .ge 14, 3) := by decide +kernel
theorem d_Rm_leftOut_25 : decode b_Rm_leftOut 25 = .ok (.aload 4, 2) := by decide +kernel
theorem d_Rm_leftOut_27 : decode b_Rm_leftOut 27 = .ok (.getfield 159, 3) := by decide +kernel
theorem d_Rm_leftOut_30 : decode b_Rm_leftOut 30 = .ok (.iload_n 2, 1) := by decide +kernel
theorem d_Rm_leftOut_31 : decode b_Rm_leftOut 31 = .ok (.iaload, 1) := by decide +kernel
theorem d_Rm_leftOut_32 : decode b_Rm_leftOut 32 = .ok (.iconst (-1), 1) := by decide +kernel
theorem d_Rm_leftOut_33 : decode b_Rm_leftOut 33 = .ok (.if_icmp .ne 13, 3) := by decide +kernel
theorem d_Rm_leftOut_36 : decode b_Rm_leftOut 36 = .ok (.new 90, 3) := by decide +kernel
theorem d_Rm_leftOut_39 : decode b_Rm_leftOut 39 = .ok (.dup, 1) := by decide +kernel
theorem d_Rm_leftOut_40 : decode b_Rm_leftOut 40 = .ok (.ldc 162, 2) := by decide +kernel
theorem d_Rm_leftOut_42 : decode b_Rm_leftOut 42 = .ok (.invokespecial 94, 3) := by decide +kernel
theorem d_Rm_leftOut_45 : decode b_Rm_leftOut 45 = .ok (.athrow, 1) := by decide +kernel
theorem d_Rm_leftOut_46 : decode b_Rm_leftOut 46 = .ok (.aload_n 0, 1) := by decide +kernel
theorem d_Rm_leftOut_47 : decode b_Rm_leftOut 47 = .ok (.aload 4, 2) := by decide +kernel
theorem d_Rm_leftOut_49 : decode b_Rm_leftOut 49 = .ok (.iload_n 2, 1) := by decide +kernel
theorem d_Rm_leftOut_50 : decode b_Rm_leftOut 50 = .ok (.invokevirtual 164, 3) := by decide +kernel
theorem d_Rm_leftOut_53 : decode b_Rm_leftOut 53 = .ok (.aload_n 0, 1) := by decide +kernel
theorem d_Rm_leftOut_54 : decode b_Rm_leftOut 54 = .ok (.getfield 48, 3) := by decide +kernel
theorem d_Rm_leftOut_57 : decode b_Rm_leftOut 57 = .ok (.iload_n 3, 1) := by decide +kernel
theorem d_Rm_leftOut_58 : decode b_Rm_leftOut 58 = .ok (.invokevirtual 168, 3) := by decide +kernel
theorem d_Rm_leftOut_61 : decode b_Rm_leftOut 61 = .ok (.ireturn, 1) := by decide +kernel
theorem d_Rm_checkSumOrYears_0 : decode b_Rm_checkSumOrYears 0 = .ok (.iload_n 0, 1) := by decide +kernel
theorem d_Rm_checkSumOrYears_1 : decode b_Rm_checkSumOrYears 1 = .ok (.ifCond .lt 8, 3) := by decide +kernel
theorem d_Rm_checkSumOrYears_4 : decode b_Rm_checkSumOrYears 4 = .ok (.iload_n 0, 1) := by decide +kernel
theorem d_Rm_checkSumOrYears_5 : decode b_Rm_checkSumOrYears 5 = .ok (.iconst 1, 1) := by decide +kernel
theorem d_Rm_checkSumOrYears_6 : decode b_Rm_checkSumOrYears 6 = .ok (.if_icmp .le 13, 3) := by decide +kernel
theorem d_Rm_checkSumOrYears_9 : decode b_Rm_checkSumOrYears 9 = .ok (.new 90, 3) := by decide +kernel
theorem d_Rm_checkSumOrYears_12 : decode b_Rm_checkSumOrYears 12 = .ok (.dup, 1) := by decide +kernel
theorem d_Rm_checkSumOrYears_13 : decode b_Rm_checkSumOrYears 13 = .ok (.ldc 143, 2) := by decide +kernel
theorem d_Rm_checkSumOrYears_15 : decode b_Rm_checkSumOrYears 15 = .ok (.invokespecial 94, 3) := by decide +kernel
theorem d_Rm_checkSumOrYears_18 : decode b_Rm_checkSumOrYears 18 = .ok (.athrow, 1) := by decide +kernel
theorem d_Rm_checkSumOrYears_19 : decode b_Rm_checkSumOrYears 19 = .ok (.return_, 1) := by decide +kernel
theorem d_Rm_measureFromOthers_0 : decode b_Rm_measureFromOthers 0 = .ok (.aload_n 0, 1) := by decide +kernel
theorem d_Rm_measureFromOthers_1 : decode b_Rm_measureFromOthers 1 = .ok (.getfield 48, 3) := by decide +kernel
theorem d_Rm_measureFromOthers_4 : decode b_Rm_measureFromOthers 4 = .ok (.invokevirtual 211, 3) := by decide +kernel
theorem d_Rm_measureFromOthers_7 : decode b_Rm_measureFromOthers 7 = .ok (.aload_n 0, 1) := by decide +kernel
theorem d_Rm_measureFromOthers_8 : decode b_Rm_measureFromOthers 8 = .ok (.getfield 19, 3) := by decide +kernel
theorem d_Rm_measureFromOthers_11 : decode b_Rm_measureFromOthers 11 = .ok (.iload_n 2, 1) := by decide +kernel
theorem d_Rm_measureFromOthers_12 : decode b_Rm_measureFromOthers 12 = .ok (.aaload, 1) := by decide +kernel
theorem d_Rm_measureFromOthers_13 : decode b_Rm_measureFromOthers 13 = .ok (.getfield 87, 3) := by decide +kernel
theorem d_Rm_measureFromOthers_16 : decode b_Rm_measureFromOthers 16 = .ok (.astore_n 3, 1) := by decide +kernel
theorem d_Rm_measureFromOthers_17 : decode b_Rm_measureFromOthers 17 = .ok (.iconst 0, 1) := by decide +kernel
theorem d_Rm_measureFromOthers_18 : decode b_Rm_measureFromOthers 18 = .ok (.istore 4, 2) := by decide +kernel
theorem d_Rm_measureFromOthers_20 : decode b_Rm_measureFromOthers 20 = .ok (.iload 4, 2) := by decide +kernel
theorem d_Rm_measureFromOthers_22 : decode b_Rm_measureFromOthers 22 = .ok (.aload_n 3, 1) := by decide +kernel
theorem d_Rm_measureFromOthers_23 : decode b_Rm_measureFromOthers 23 = .ok (.arraylength, 1) := by decide +kernel
theorem d_Rm_measureFromOthers_24 : decode b_Rm_measureFromOthers 24 = .ok (.if_icmp .ge 55, 3) := by decide +kernel
theorem d_Rm_measureFromOthers_27 : decode b_Rm_measureFromOthers 27 = .ok (.aload_n 0, 1) := by decide +kernel
theorem d_Rm_measureFromOthers_28 : decode b_Rm_measureFromOthers 28 = .ok (.aload_n 1, 1) := by decide +kernel
theorem d_Rm_measureFromOthers_29 : decode b_Rm_measureFromOthers 29 = .ok (.getfield 159, 3) := by decide +kernel
theorem d_Rm_measureFromOthers_32 : decode b_Rm_measureFromOthers 32 = .ok (.aload_n 1, 1) := by decide +kernel
theorem d_Rm_measureFromOthers_33 : decode b_Rm_measureFromOthers 33 = .ok (.getfield 159, 3) := by decide +kernel
theorem d_Rm_measureFromOthers_36 : decode b_Rm_measureFromOthers 36 = .ok (.iload_n 2, 1) := by decide +kernel
theorem d_Rm_measureFromOthers_37 : decode b_Rm_measureFromOthers 37 = .ok (.iaload, 1) := by decide +kernel
theorem d_Rm_measureFromOthers_38 : decode b_Rm_measureFromOthers 38 = .ok (.iload 4, 2) := by decide +kernel
theorem d_Rm_measureFromOthers_40 : decode b_Rm_measureFromOthers 40 = .ok (.iadd, 1) := by decide +kernel
theorem d_Rm_measureFromOthers_41 : decode b_Rm_measureFromOthers 41 = .ok (.iload_n 2, 1) := by decide +kernel
theorem d_Rm_measureFromOthers_42 : decode b_Rm_measureFromOthers 42 = .ok (.invokevirtual 249, 3) := by decide +kernel
theorem d_Rm_measureFromOthers_45 : decode b_Rm_measureFromOthers 45 = .ok (.aload_n 0, 1) := by decide +kernel
theorem d_Rm_measureFromOthers_46 : decode b_Rm_measureFromOthers 46 = .ok (.getfield 41, 3) := by decide +kernel
theorem d_Rm_measureFromOthers_49 : decode b_Rm_measureFromOthers 49 = .ok (.invokevirtual 253, 3) := by decide +kernel
theorem d_Rm_measureFromOthers_52 : decode b_Rm_measureFromOthers 52 = .ok (.istore 5, 2) := by decide +kernel
theorem d_Rm_measureFromOthers_54 : decode b_Rm_measureFromOthers 54 = .ok (.iload 5, 2) := by decide +kernel
theorem d_Rm_measureFromOthers_56 : decode b_Rm_measureFromOthers 56 = .ok (.iconst (-1), 1) := by decide +kernel
theorem d_Rm_measureFromOthers_57 : decode b_Rm_measureFromOthers 57 = .ok (.if_icmp .eq 16, 3) := by decide +kernel
theorem d_Rm_measureFromOthers_60 : decode b_Rm_measureFromOthers 60 = .ok (.aload_n 0, 1) := by decide +kernel
theorem d_Rm_measureFromOthers_61 : decode b_Rm_measureFromOthers 61 = .ok (.getfield 48, 3) := by decide +kernel
theorem d_Rm_measureFromOthers_64 : decode b_Rm_measureFromOthers 64 = .ok (.aload_n 3, 1) := by decide +kernel
theorem d_Rm_measureFromOthers_65 : decode b_Rm_measureFromOthers 65 = .ok (.iload 4, 2) := by decide +kernel
theorem d_Rm_measureFromOthers_67 : decode b_Rm_measureFromOthers 67 = .ok (.iaload, 1) := by decide +kernel
theorem d_Rm_measureFromOthers_68 : decode b_Rm_measureFromOthers 68 = .ok (.iload 5, 2) := by decide +kernel
theorem d_Rm_measureFromOthers_70 : decode b_Rm_measureFromOthers 70 = .ok (.invokevirtual 218, 3) := by decide +kernel
theorem d_Rm_measureFromOthers_73 : decode b_Rm_measureFromOthers 73 = .ok (.iinc 4 1, 3) := by decide +kernel
theorem d_Rm_measureFromOthers_76 : decode b_Rm_measureFromOthers 76 = .ok (.goto (-56), 3) := by decide +kernel
theorem d_Rm_measureFromOthers_79 : decode b_Rm_measureFromOthers 79 = .ok (.return_, 1) := by decide +kernel
theorem d_Rm_distance_0 : decode b_Rm_distance 0 = .ok (.aload_n 0, 1) := by decide +kernel
theorem d_Rm_distance_1 : decode b_Rm_distance 1 = .ok (.iload_n 1, 1) := by decide +kernel
theorem d_Rm_distance_2 : decode b_Rm_distance 2 = .ok (.invokevirtual 83, 3) := by decide +kernel
theorem d_Rm_distance_5 : decode b_Rm_distance 5 = .ok (.astore 5, 2) := by decide +kernel
theorem d_Rm_distance_7 : decode b_Rm_distance 7 = .ok (.aload_n 0, 1) := by decide +kernel
theorem d_Rm_distance_8 : decode b_Rm_distance 8 = .ok (.iload_n 2, 1) := by decide +kernel
theorem d_Rm_distance_9 : decode b_Rm_distance 9 = .ok (.invokevirtual 130, 3) := by decide +kernel
theorem d_Rm_distance_12 : decode b_Rm_distance 12 = .ok (.astore 6, 2) := by decide +kernel
theorem d_Rm_distance_14 : decode b_Rm_distance 14 = .ok (.iload 4, 2) := by decide +kernel
theorem d_Rm_distance_16 : decode b_Rm_distance 16 = .ok (.invokestatic 155, 3) := by decide +kernel
theorem d_Rm_distance_19 : decode b_Rm_distance 19 = .ok (.aload_n 0, 1) := by decide +kernel
theorem d_Rm_distance_20 : decode b_Rm_distance 20 = .ok (.aload 5, 2) := by decide +kernel
theorem d_Rm_distance_22 : decode b_Rm_distance 22 = .ok (.aload 6, 2) := by decide +kernel
theorem d_Rm_distance_24 : decode b_Rm_distance 24 = .ok (.iload_n 3, 1) := by decide +kernel
theorem d_Rm_distance_25 : decode b_Rm_distance 25 = .ok (.invokevirtual 171, 3) := by decide +kernel
theorem d_Rm_distance_28 : decode b_Rm_distance 28 = .ok (.aload_n 0, 1) := by decide +kernel
theorem d_Rm_distance_29 : decode b_Rm_distance 29 = .ok (.getfield 48, 3) := by decide +kernel
theorem d_Rm_distance_32 : decode b_Rm_distance 32 = .ok (.iload 4, 2) := by decide +kernel
theorem d_Rm_distance_34 : decode b_Rm_distance 34 = .ok (.invokevirtual 168, 3) := by decide +kernel
theorem d_Rm_distance_37 : decode b_Rm_distance 37 = .ok (.ireturn, 1) := by decide +kernel
theorem d_Rm_measure_0 : decode b_Rm_measure 0 = .ok (.aload_n 0, 1) := by decide +kernel
theorem d_Rm_measure_1 : decode b_Rm_measure 1 = .ok (.getfield 48, 3) := by decide +kernel
theorem d_Rm_measure_4 : decode b_Rm_measure 4 = .ok (.invokevirtual 211, 3) := by decide +kernel
theorem d_Rm_measure_7 : decode b_Rm_measure 7 = .ok (.iconst 0, 1) := by decide +kernel
theorem d_Rm_measure_8 : decode b_Rm_measure 8 = .ok (.istore 4, 2) := by decide +kernel
theorem d_Rm_measure_10 : decode b_Rm_measure 10 = .ok (.iload 4, 2) := by decide +kernel
theorem d_Rm_measure_12 : decode b_Rm_measure 12 = .ok (.aload_n 1, 1) := by decide +kernel
theorem d_Rm_measure_13 : decode b_Rm_measure 13 = .ok (.getfield 87, 3) := by decide +kernel
theorem d_Rm_measure_16 : decode b_Rm_measure 16 = .ok (.arraylength, 1) := by decide +kernel
theorem d_Rm_measure_17 : decode b_Rm_measure 17 = .ok (.if_icmp .ge 77, 3) := by decide +kernel
theorem d_Rm_measure_20 : decode b_Rm_measure 20 = .ok (.iload_n 3, 1) := by decide +kernel
theorem d_Rm_measure_21 : decode b_Rm_measure 21 = .ok (.i2l, 1) := by decide +kernel
theorem d_Rm_measure_22 : decode b_Rm_measure 22 = .ok (.iload 4, 2) := by decide +kernel
theorem d_Rm_measure_24 : decode b_Rm_measure 24 = .ok (.i2l, 1) := by decide +kernel
theorem d_Rm_measure_25 : decode b_Rm_measure 25 = .ok (.ladd, 1) := by decide +kernel
theorem d_Rm_measure_26 : decode b_Rm_measure 26 = .ok (.aload_n 2, 1) := by decide +kernel
theorem d_Rm_measure_27 : decode b_Rm_measure 27 = .ok (.getfield 134, 3) := by decide +kernel
theorem d_Rm_measure_30 : decode b_Rm_measure 30 = .ok (.i2l, 1) := by decide +kernel
theorem d_Rm_measure_31 : decode b_Rm_measure 31 = .ok (.lsub, 1) := by decide +kernel
theorem d_Rm_measure_32 : decode b_Rm_measure 32 = .ok (.lstore 5, 2) := by decide +kernel
theorem d_Rm_measure_34 : decode b_Rm_measure 34 = .ok (.lload 5, 2) := by decide +kernel
theorem d_Rm_measure_36 : decode b_Rm_measure 36 = .ok (.lconst 0, 1) := by decide +kernel
theorem d_Rm_measure_37 : decode b_Rm_measure 37 = .ok (.lcmp, 1) := by decide +kernel
theorem d_Rm_measure_38 : decode b_Rm_measure 38 = .ok (.ifCond .lt 50, 3) := by decide +kernel
theorem d_Rm_measure_41 : decode b_Rm_measure 41 = .ok (.lload 5, 2) := by decide +kernel
theorem d_Rm_measure_43 : decode b_Rm_measure 43 = .ok (.aload_n 2, 1) := by decide +kernel
theorem d_Rm_measure_44 : decode b_Rm_measure 44 = .ok (.getfield 145, 3) := by decide +kernel
theorem d_Rm_measure_47 : decode b_Rm_measure 47 = .ok (.arraylength, 1) := by decide +kernel
theorem d_Rm_measure_48 : decode b_Rm_measure 48 = .ok (.i2l, 1) := by decide +kernel
theorem d_Rm_measure_49 : decode b_Rm_measure 49 = .ok (.lcmp, 1) := by decide +kernel
theorem d_Rm_measure_50 : decode b_Rm_measure 50 = .ok (.ifCond .lt 6, 3) := by decide +kernel
theorem d_Rm_measure_53 : decode b_Rm_measure 53 = .ok (.goto 35, 3) := by decide +kernel
theorem d_Rm_measure_56 : decode b_Rm_measure 56 = .ok (.aload_n 2, 1) := by decide +kernel
theorem d_Rm_measure_57 : decode b_Rm_measure 57 = .ok (.getfield 145, 3) := by decide +kernel
theorem d_Rm_measure_60 : decode b_Rm_measure 60 = .ok (.lload 5, 2) := by decide +kernel
theorem d_Rm_measure_62 : decode b_Rm_measure 62 = .ok (.l2i, 1) := by decide +kernel
theorem d_Rm_measure_63 : decode b_Rm_measure 63 = .ok (.iaload, 1) := by decide +kernel
theorem d_Rm_measure_64 : decode b_Rm_measure 64 = .ok (.istore 7, 2) := by decide +kernel
theorem d_Rm_measure_66 : decode b_Rm_measure 66 = .ok (.iload 7, 2) := by decide +kernel
theorem d_Rm_measure_68 : decode b_Rm_measure 68 = .ok (.iconst (-1), 1) := by decide +kernel
theorem d_Rm_measure_69 : decode b_Rm_measure 69 = .ok (.if_icmp .eq 19, 3) := by decide +kernel
theorem d_Rm_measure_72 : decode b_Rm_measure 72 = .ok (.aload_n 0, 1) := by decide +kernel
theorem d_Rm_measure_73 : decode b_Rm_measure 73 = .ok (.getfield 48, 3) := by decide +kernel
theorem d_Rm_measure_76 : decode b_Rm_measure 76 = .ok (.aload_n 1, 1) := by decide +kernel
theorem d_Rm_measure_77 : decode b_Rm_measure 77 = .ok (.getfield 87, 3) := by decide +kernel
theorem d_Rm_measure_80 : decode b_Rm_measure 80 = .ok (.iload 4, 2) := by decide +kernel
theorem d_Rm_measure_82 : decode b_Rm_measure 82 = .ok (.iaload, 1) := by decide +kernel
theorem d_Rm_measure_83 : decode b_Rm_measure 83 = .ok (.iload 7, 2) := by decide +kernel
theorem d_Rm_measure_85 : decode b_Rm_measure 85 = .ok (.invokevirtual 218, 3) := by decide +kernel
theorem d_Rm_measure_88 : decode b_Rm_measure 88 = .ok (.iinc 4 1, 3) := by decide +kernel
theorem d_Rm_measure_91 : decode b_Rm_measure 91 = .ok (.goto (-81), 3) := by decide +kernel
theorem d_Rm_measure_94 : decode b_Rm_measure 94 = .ok (.return_, 1) := by decide +kernel
theorem d_Rm_date_0 : decode b_Rm_date 0 = .ok (.aload_n 0, 1) := by decide +kernel
theorem d_Rm_date_1 : decode b_Rm_date 1 = .ok (.iload_n 1, 1) := by decide +kernel
theorem d_Rm_date_2 : decode b_Rm_date 2 = .ok (.invokevirtual 83, 3) := by decide +kernel
theorem d_Rm_date_5 : decode b_Rm_date 5 = .ok (.astore 4, 2) := by decide +kernel
theorem d_Rm_date_7 : decode b_Rm_date 7 = .ok (.aload_n 0, 1) := by decide +kernel
theorem d_Rm_date_8 : decode b_Rm_date 8 = .ok (.iload_n 2, 1) := by decide +kernel
theorem d_Rm_date_9 : decode b_Rm_date 9 = .ok (.invokevirtual 130, 3) := by decide +kernel
theorem d_Rm_date_12 : decode b_Rm_date 12 = .ok (.astore 5, 2) := by decide +kernel
theorem d_Rm_date_14 : decode b_Rm_date 14 = .ok (.iload_n 3, 1) := by decide +kernel
theorem d_Rm_date_15 : decode b_Rm_date 15 = .ok (.invokestatic 175, 3) := by decide +kernel
theorem d_Rm_date_18 : decode b_Rm_date 18 = .ok (.aload_n 0, 1) := by decide +kernel
theorem d_Rm_date_19 : decode b_Rm_date 19 = .ok (.aload 4, 2) := by decide +kernel
theorem d_Rm_date_21 : decode b_Rm_date 21 = .ok (.aload 5, 2) := by decide +kernel
theorem d_Rm_date_23 : decode b_Rm_date 23 = .ok (.iload_n 3, 1) := by decide +kernel
theorem d_Rm_date_24 : decode b_Rm_date 24 = .ok (.invokevirtual 178, 3) := by decide +kernel
theorem d_Rm_date_27 : decode b_Rm_date 27 = .ok (.ireturn, 1) := by decide +kernel
theorem d_Rm_checkLeast_0 : decode b_Rm_checkLeast 0 = .ok (.iload_n 0, 1) := by decide +kernel
theorem d_Rm_checkLeast_1 : decode b_Rm_checkLeast 1 = .ok (.iconst 2, 1) := by decide +kernel
theorem d_Rm_checkLeast_2 : decode b_Rm_checkLeast 2 = .ok (.if_icmp .lt 9, 3) := by decide +kernel
theorem d_Rm_checkLeast_5 : decode b_Rm_checkLeast 5 = .ok (.iload_n 0, 1) := by decide +kernel
theorem d_Rm_checkLeast_6 : decode b_Rm_checkLeast 6 = .ok (.bipush 30, 2) := by decide +kernel
theorem d_Rm_checkLeast_8 : decode b_Rm_checkLeast 8 = .ok (.if_icmp .le 13, 3) := by decide +kernel
theorem d_Rm_checkLeast_11 : decode b_Rm_checkLeast 11 = .ok (.new 69, 3) := by decide +kernel
theorem d_Rm_checkLeast_14 : decode b_Rm_checkLeast 14 = .ok (.dup, 1) := by decide +kernel
theorem d_Rm_checkLeast_15 : decode b_Rm_checkLeast 15 = .ok (.ldc 233, 2) := by decide +kernel
theorem d_Rm_checkLeast_17 : decode b_Rm_checkLeast 17 = .ok (.invokespecial 73, 3) := by decide +kernel
theorem d_Rm_checkLeast_20 : decode b_Rm_checkLeast 20 = .ok (.athrow, 1) := by decide +kernel
theorem d_Rm_checkLeast_21 : decode b_Rm_checkLeast 21 = .ok (.return_, 1) := by decide +kernel
theorem d_Rm_nearestYear_0 : decode b_Rm_nearestYear 0 = .ok (.sipush (-1000), 3) := by decide +kernel
theorem d_Rm_nearestYear_3 : decode b_Rm_nearestYear 3 = .ok (.istore 4, 2) := by decide +kernel
theorem d_Rm_nearestYear_5 : decode b_Rm_nearestYear 5 = .ok (.aload_n 0, 1) := by decide +kernel
theorem d_Rm_nearestYear_6 : decode b_Rm_nearestYear 6 = .ok (.getfield 52, 3) := by decide +kernel
theorem d_Rm_nearestYear_9 : decode b_Rm_nearestYear 9 = .ok (.invokevirtual 211, 3) := by decide +kernel
theorem d_Rm_nearestYear_12 : decode b_Rm_nearestYear 12 = .ok (.aload_n 2, 1) := by decide +kernel
theorem d_Rm_nearestYear_13 : decode b_Rm_nearestYear 13 = .ok (.getfield 134, 3) := by decide +kernel
theorem d_Rm_nearestYear_16 : decode b_Rm_nearestYear 16 = .ok (.aload_n 1, 1) := by decide +kernel
theorem d_Rm_nearestYear_17 : decode b_Rm_nearestYear 17 = .ok (.getfield 87, 3) := by decide +kernel
theorem d_Rm_nearestYear_20 : decode b_Rm_nearestYear 20 = .ok (.arraylength, 1) := by decide +kernel
theorem d_Rm_nearestYear_21 : decode b_Rm_nearestYear 21 = .ok (.isub, 1) := by decide +kernel
theorem d_Rm_nearestYear_22 : decode b_Rm_nearestYear 22 = .ok (.iconst 1, 1) := by decide +kernel
theorem d_Rm_nearestYear_23 : decode b_Rm_nearestYear 23 = .ok (.iadd, 1) := by decide +kernel
theorem d_Rm_nearestYear_24 : decode b_Rm_nearestYear 24 = .ok (.istore 5, 2) := by decide +kernel
theorem d_Rm_nearestYear_26 : decode b_Rm_nearestYear 26 = .ok (.iload 5, 2) := by decide +kernel
theorem d_Rm_nearestYear_28 : decode b_Rm_nearestYear 28 = .ok (.aload_n 2, 1) := by decide +kernel
theorem d_Rm_nearestYear_29 : decode b_Rm_nearestYear 29 = .ok (.getfield 137, 3) := by decide +kernel
theorem d_Rm_nearestYear_32 : decode b_Rm_nearestYear 32 = .ok (.if_icmp .gt 65, 3) := by decide +kernel
theorem d_Rm_nearestYear_35 : decode b_Rm_nearestYear 35 = .ok (.aload_n 0, 1) := by decide +kernel
theorem d_Rm_nearestYear_36 : decode b_Rm_nearestYear 36 = .ok (.aload_n 1, 1) := by decide +kernel
theorem d_Rm_nearestYear_37 : decode b_Rm_nearestYear 37 = .ok (.aload_n 2, 1) := by decide +kernel
theorem d_Rm_nearestYear_38 : decode b_Rm_nearestYear 38 = .ok (.iload 5, 2) := by decide +kernel
theorem d_Rm_nearestYear_40 : decode b_Rm_nearestYear 40 = .ok (.invokevirtual 171, 3) := by decide +kernel
theorem d_Rm_nearestYear_43 : decode b_Rm_nearestYear 43 = .ok (.aload_n 0, 1) := by decide +kernel
theorem d_Rm_nearestYear_44 : decode b_Rm_nearestYear 44 = .ok (.getfield 48, 3) := by decide +kernel
theorem d_Rm_nearestYear_47 : decode b_Rm_nearestYear 47 = .ok (.getfield 222, 3) := by decide +kernel

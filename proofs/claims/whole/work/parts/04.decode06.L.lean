theorem d_L_ring_0 : decode b_L_ring 0 = .ok (.aload_n 2, 1) := by decide +kernel
theorem d_L_ring_1 : decode b_L_ring 1 = .ok (.iconst 0, 1) := by decide +kernel
theorem d_L_ring_2 : decode b_L_ring 2 = .ok (.aload_n 0, 1) := by decide +kernel
theorem d_L_ring_3 : decode b_L_ring 3 = .ok (.iload_n 1, 1) := by decide +kernel
theorem d_L_ring_4 : decode b_L_ring 4 = .ok (.invokevirtual 7, 3) := by decide +kernel
theorem d_L_ring_7 : decode b_L_ring 7 = .ok (.i2l, 1) := by decide +kernel
theorem d_L_ring_8 : decode b_L_ring 8 = .ok (.lastore, 1) := by decide +kernel
theorem d_L_ring_9 : decode b_L_ring 9 = .ok (.goto 9, 3) := by decide +kernel
theorem d_L_ring_12 : decode b_L_ring 12 = .ok (.astore_n 3, 1) := by decide +kernel
theorem d_L_ring_13 : decode b_L_ring 13 = .ok (.iconst 1, 1) := by decide +kernel
theorem d_L_ring_14 : decode b_L_ring 14 = .ok (.ireturn, 1) := by decide +kernel
theorem d_L_ring_15 : decode b_L_ring 15 = .ok (.astore_n 3, 1) := by decide +kernel
theorem d_L_ring_16 : decode b_L_ring 16 = .ok (.iconst 2, 1) := by decide +kernel
theorem d_L_ring_17 : decode b_L_ring 17 = .ok (.ireturn, 1) := by decide +kernel
theorem d_L_ring_18 : decode b_L_ring 18 = .ok (.iconst 0, 1) := by decide +kernel
theorem d_L_ring_19 : decode b_L_ring 19 = .ok (.ireturn, 1) := by decide +kernel
theorem d_L_series_0 : decode b_L_series 0 = .ok (.aload_n 1, 1) := by decide +kernel
theorem d_L_series_1 : decode b_L_series 1 = .ok (.iconst 0, 1) := by decide +kernel
theorem d_L_series_2 : decode b_L_series 2 = .ok (.aload_n 0, 1) := by decide +kernel
theorem d_L_series_3 : decode b_L_series 3 = .ok (.invokevirtual 17, 3) := by decide +kernel
theorem d_L_series_6 : decode b_L_series 6 = .ok (.i2l, 1) := by decide +kernel
theorem d_L_series_7 : decode b_L_series 7 = .ok (.lastore, 1) := by decide +kernel
theorem d_L_series_8 : decode b_L_series 8 = .ok (.goto 6, 3) := by decide +kernel
theorem d_L_series_11 : decode b_L_series 11 = .ok (.astore_n 2, 1) := by decide +kernel
theorem d_L_series_12 : decode b_L_series 12 = .ok (.iconst 1, 1) := by decide +kernel
theorem d_L_series_13 : decode b_L_series 13 = .ok (.ireturn, 1) := by decide +kernel
theorem d_L_series_14 : decode b_L_series 14 = .ok (.iconst 0, 1) := by decide +kernel
theorem d_L_series_15 : decode b_L_series 15 = .ok (.ireturn, 1) := by decide +kernel
theorem d_L_evened_0 : decode b_L_evened 0 = .ok (.aload_n 3, 1) := by decide +kernel
theorem d_L_evened_1 : decode b_L_evened 1 = .ok (.iconst 0, 1) := by decide +kernel
theorem d_L_evened_2 : decode b_L_evened 2 = .ok (.aload_n 0, 1) := by decide +kernel
theorem d_L_evened_3 : decode b_L_evened 3 = .ok (.iload_n 1, 1) := by decide +kernel
theorem d_L_evened_4 : decode b_L_evened 4 = .ok (.iload_n 2, 1) := by decide +kernel
theorem d_L_evened_5 : decode b_L_evened 5 = .ok (.invokevirtual 21, 3) := by decide +kernel
theorem d_L_evened_8 : decode b_L_evened 8 = .ok (.i2l, 1) := by decide +kernel
theorem d_L_evened_9 : decode b_L_evened 9 = .ok (.lastore, 1) := by decide +kernel
theorem d_L_evened_10 : decode b_L_evened 10 = .ok (.goto 7, 3) := by decide +kernel
theorem d_L_evened_13 : decode b_L_evened 13 = .ok (.astore 4, 2) := by decide +kernel
theorem d_L_evened_15 : decode b_L_evened 15 = .ok (.iconst 1, 1) := by decide +kernel
theorem d_L_evened_16 : decode b_L_evened 16 = .ok (.ireturn, 1) := by decide +kernel
theorem d_L_evened_17 : decode b_L_evened 17 = .ok (.iconst 0, 1) := by decide +kernel
theorem d_L_evened_18 : decode b_L_evened 18 = .ok (.ireturn, 1) := by decide +kernel
theorem d_L_place_0 : decode b_L_place 0 = .ok (.aload_n 3, 1) := by decide +kernel
theorem d_L_place_1 : decode b_L_place 1 = .ok (.iconst 0, 1) := by decide +kernel
theorem d_L_place_2 : decode b_L_place 2 = .ok (.aload_n 0, 1) := by decide +kernel
theorem d_L_place_3 : decode b_L_place 3 = .ok (.iload_n 1, 1) := by decide +kernel
theorem d_L_place_4 : decode b_L_place 4 = .ok (.iload_n 2, 1) := by decide +kernel
theorem d_L_place_5 : decode b_L_place 5 = .ok (.invokevirtual 27, 3) := by decide +kernel
theorem d_L_place_8 : decode b_L_place 8 = .ok (.i2l, 1) := by decide +kernel
theorem d_L_place_9 : decode b_L_place 9 = .ok (.lastore, 1) := by decide +kernel
theorem d_L_place_10 : decode b_L_place 10 = .ok (.goto 11, 3) := by decide +kernel
theorem d_L_place_13 : decode b_L_place 13 = .ok (.astore 4, 2) := by decide +kernel
theorem d_L_place_15 : decode b_L_place 15 = .ok (.iconst 1, 1) := by decide +kernel
theorem d_L_place_16 : decode b_L_place 16 = .ok (.ireturn, 1) := by decide +kernel
theorem d_L_place_17 : decode b_L_place 17 = .ok (.astore 4, 2) := by decide +kernel
theorem d_L_place_19 : decode b_L_place 19 = .ok (.iconst 2, 1) := by decide +kernel
theorem d_L_place_20 : decode b_L_place 20 = .ok (.ireturn, 1) := by decide +kernel
theorem d_L_place_21 : decode b_L_place 21 = .ok (.iconst 0, 1) := by decide +kernel
theorem d_L_place_22 : decode b_L_place 22 = .ok (.ireturn, 1) := by decide +kernel
theorem d_L_master_0 : decode b_L_master 0 = .ok (.aload_n 2, 1) := by decide +kernel
theorem d_L_master_1 : decode b_L_master 1 = .ok (.iconst 0, 1) := by decide +kernel
theorem d_L_master_2 : decode b_L_master 2 = .ok (.aload_n 0, 1) := by decide +kernel
theorem d_L_master_3 : decode b_L_master 3 = .ok (.iload_n 1, 1) := by decide +kernel
theorem d_L_master_4 : decode b_L_master 4 = .ok (.invokevirtual 30, 3) := by decide +kernel
theorem d_L_master_7 : decode b_L_master 7 = .ok (.i2l, 1) := by decide +kernel
theorem d_L_master_8 : decode b_L_master 8 = .ok (.lastore, 1) := by decide +kernel
theorem d_L_master_9 : decode b_L_master 9 = .ok (.goto 9, 3) := by decide +kernel
theorem d_L_master_12 : decode b_L_master 12 = .ok (.astore_n 3, 1) := by decide +kernel
theorem d_L_master_13 : decode b_L_master 13 = .ok (.iconst 1, 1) := by decide +kernel
theorem d_L_master_14 : decode b_L_master 14 = .ok (.ireturn, 1) := by decide +kernel
theorem d_L_master_15 : decode b_L_master 15 = .ok (.astore_n 3, 1) := by decide +kernel
theorem d_L_master_16 : decode b_L_master 16 = .ok (.iconst 2, 1) := by decide +kernel
theorem d_L_master_17 : decode b_L_master 17 = .ok (.ireturn, 1) := by decide +kernel
theorem d_L_master_18 : decode b_L_master 18 = .ok (.iconst 0, 1) := by decide +kernel
theorem d_L_master_19 : decode b_L_master 19 = .ok (.ireturn, 1) := by decide +kernel
theorem d_L_about_0 : decode b_L_about 0 = .ok (.aload_n 3, 1) := by decide +kernel
theorem d_L_about_1 : decode b_L_about 1 = .ok (.iconst 0, 1) := by decide +kernel
theorem d_L_about_2 : decode b_L_about 2 = .ok (.aload_n 0, 1) := by decide +kernel
theorem d_L_about_3 : decode b_L_about 3 = .ok (.iload_n 1, 1) := by decide +kernel
theorem d_L_about_4 : decode b_L_about 4 = .ok (.iload_n 2, 1) := by decide +kernel
theorem d_L_about_5 : decode b_L_about 5 = .ok (.invokevirtual 33, 3) := by decide +kernel
theorem d_L_about_8 : decode b_L_about 8 = .ok (.i2l, 1) := by decide +kernel
theorem d_L_about_9 : decode b_L_about 9 = .ok (.lastore, 1) := by decide +kernel
theorem d_L_about_10 : decode b_L_about 10 = .ok (.goto 7, 3) := by decide +kernel
theorem d_L_about_13 : decode b_L_about 13 = .ok (.astore 4, 2) := by decide +kernel
theorem d_L_about_15 : decode b_L_about 15 = .ok (.iconst 1, 1) := by decide +kernel
theorem d_L_about_16 : decode b_L_about 16 = .ok (.ireturn, 1) := by decide +kernel
theorem d_L_about_17 : decode b_L_about 17 = .ok (.iconst 0, 1) := by decide +kernel
theorem d_L_about_18 : decode b_L_about 18 = .ok (.ireturn, 1) := by decide +kernel
theorem d_L_at_0 : decode b_L_at 0 = .ok (.aload_n 3, 1) := by decide +kernel
theorem d_L_at_1 : decode b_L_at 1 = .ok (.iconst 0, 1) := by decide +kernel
theorem d_L_at_2 : decode b_L_at 2 = .ok (.aload_n 0, 1) := by decide +kernel
theorem d_L_at_3 : decode b_L_at 3 = .ok (.iload_n 1, 1) := by decide +kernel
theorem d_L_at_4 : decode b_L_at 4 = .ok (.iload_n 2, 1) := by decide +kernel
theorem d_L_at_5 : decode b_L_at 5 = .ok (.invokevirtual 36, 3) := by decide +kernel
theorem d_L_at_8 : decode b_L_at 8 = .ok (.i2l, 1) := by decide +kernel
theorem d_L_at_9 : decode b_L_at 9 = .ok (.lastore, 1) := by decide +kernel
theorem d_L_at_10 : decode b_L_at 10 = .ok (.goto 7, 3) := by decide +kernel
theorem d_L_at_13 : decode b_L_at 13 = .ok (.astore 4, 2) := by decide +kernel
theorem d_L_at_15 : decode b_L_at 15 = .ok (.iconst 1, 1) := by decide +kernel
theorem d_L_at_16 : decode b_L_at 16 = .ok (.ireturn, 1) := by decide +kernel
theorem d_L_at_17 : decode b_L_at 17 = .ok (.iconst 0, 1) := by decide +kernel
theorem d_L_at_18 : decode b_L_at 18 = .ok (.ireturn, 1) := by decide +kernel
theorem d_L_depth_0 : decode b_L_depth 0 = .ok (.aload_n 3, 1) := by decide +kernel
theorem d_L_depth_1 : decode b_L_depth 1 = .ok (.iconst 0, 1) := by decide +kernel
theorem d_L_depth_2 : decode b_L_depth 2 = .ok (.aload_n 0, 1) := by decide +kernel
theorem d_L_depth_3 : decode b_L_depth 3 = .ok (.iload_n 1, 1) := by decide +kernel
theorem d_L_depth_4 : decode b_L_depth 4 = .ok (.iload_n 2, 1) := by decide +kernel
theorem d_L_depth_5 : decode b_L_depth 5 = .ok (.invokevirtual 39, 3) := by decide +kernel
theorem d_L_depth_8 : decode b_L_depth 8 = .ok (.i2l, 1) := by decide +kernel
theorem d_L_depth_9 : decode b_L_depth 9 = .ok (.lastore, 1) := by decide +kernel
theorem d_L_depth_10 : decode b_L_depth 10 = .ok (.goto 7, 3) := by decide +kernel
theorem d_L_depth_13 : decode b_L_depth 13 = .ok (.astore 4, 2) := by decide +kernel
theorem d_L_depth_15 : decode b_L_depth 15 = .ok (.iconst 1, 1) := by decide +kernel
theorem d_L_depth_16 : decode b_L_depth 16 = .ok (.ireturn, 1) := by decide +kernel
theorem d_L_depth_17 : decode b_L_depth 17 = .ok (.iconst 0, 1) := by decide +kernel
theorem d_L_depth_18 : decode b_L_depth 18 = .ok (.ireturn, 1) := by decide +kernel
theorem d_L_leftOut_0 : decode b_L_leftOut 0 = .ok (.aload 4, 2) := by decide +kernel
theorem d_L_leftOut_2 : decode b_L_leftOut 2 = .ok (.iconst 0, 1) := by decide +kernel
theorem d_L_leftOut_3 : decode b_L_leftOut 3 = .ok (.aload_n 0, 1) := by decide +kernel
theorem d_L_leftOut_4 : decode b_L_leftOut 4 = .ok (.iload_n 1, 1) := by decide +kernel
theorem d_L_leftOut_5 : decode b_L_leftOut 5 = .ok (.iload_n 2, 1) := by decide +kernel
theorem d_L_leftOut_6 : decode b_L_leftOut 6 = .ok (.iload_n 3, 1) := by decide +kernel
theorem d_L_leftOut_7 : decode b_L_leftOut 7 = .ok (.invokevirtual 42, 3) := by decide +kernel
theorem d_L_leftOut_10 : decode b_L_leftOut 10 = .ok (.i2l, 1) := by decide +kernel
theorem d_L_leftOut_11 : decode b_L_leftOut 11 = .ok (.lastore, 1) := by decide +kernel
theorem d_L_leftOut_12 : decode b_L_leftOut 12 = .ok (.goto 7, 3) := by decide +kernel
theorem d_L_leftOut_15 : decode b_L_leftOut 15 = .ok (.astore 5, 2) := by decide +kernel
theorem d_L_leftOut_17 : decode b_L_leftOut 17 = .ok (.iconst 1, 1) := by decide +kernel
theorem d_L_leftOut_18 : decode b_L_leftOut 18 = .ok (.ireturn, 1) := by decide +kernel
theorem d_L_leftOut_19 : decode b_L_leftOut 19 = .ok (.iconst 0, 1) := by decide +kernel
theorem d_L_leftOut_20 : decode b_L_leftOut 20 = .ok (.ireturn, 1) := by decide +kernel
theorem d_L_distance_0 : decode b_L_distance 0 = .ok (.aload 5, 2) := by decide +kernel
theorem d_L_distance_2 : decode b_L_distance 2 = .ok (.iconst 0, 1) := by decide +kernel
theorem d_L_distance_3 : decode b_L_distance 3 = .ok (.aload_n 0, 1) := by decide +kernel
theorem d_L_distance_4 : decode b_L_distance 4 = .ok (.iload_n 1, 1) := by decide +kernel
theorem d_L_distance_5 : decode b_L_distance 5 = .ok (.iload_n 2, 1) := by decide +kernel
theorem d_L_distance_6 : decode b_L_distance 6 = .ok (.iload_n 3, 1) := by decide +kernel
theorem d_L_distance_7 : decode b_L_distance 7 = .ok (.iload 4, 2) := by decide +kernel
theorem d_L_distance_9 : decode b_L_distance 9 = .ok (.invokevirtual 46, 3) := by decide +kernel
theorem d_L_distance_12 : decode b_L_distance 12 = .ok (.i2l, 1) := by decide +kernel
theorem d_L_distance_13 : decode b_L_distance 13 = .ok (.lastore, 1) := by decide +kernel
theorem d_L_distance_14 : decode b_L_distance 14 = .ok (.goto 7, 3) := by decide +kernel
theorem d_L_distance_17 : decode b_L_distance 17 = .ok (.astore 6, 2) := by decide +kernel
theorem d_L_distance_19 : decode b_L_distance 19 = .ok (.iconst 1, 1) := by decide +kernel
theorem d_L_distance_20 : decode b_L_distance 20 = .ok (.ireturn, 1) := by decide +kernel
theorem d_L_distance_21 : decode b_L_distance 21 = .ok (.iconst 0, 1) := by decide +kernel
theorem d_L_distance_22 : decode b_L_distance 22 = .ok (.ireturn, 1) := by decide +kernel
theorem d_L_date_0 : decode b_L_date 0 = .ok (.aload 4, 2) := by decide +kernel
theorem d_L_date_2 : decode b_L_date 2 = .ok (.iconst 0, 1) := by decide +kernel
theorem d_L_date_3 : decode b_L_date 3 = .ok (.aload_n 0, 1) := by decide +kernel
theorem d_L_date_4 : decode b_L_date 4 = .ok (.iload_n 1, 1) := by decide +kernel
theorem d_L_date_5 : decode b_L_date 5 = .ok (.iload_n 2, 1) := by decide +kernel
theorem d_L_date_6 : decode b_L_date 6 = .ok (.iload_n 3, 1) := by decide +kernel
theorem d_L_date_7 : decode b_L_date 7 = .ok (.invokevirtual 50, 3) := by decide +kernel
theorem d_L_date_10 : decode b_L_date 10 = .ok (.i2l, 1) := by decide +kernel
theorem d_L_date_11 : decode b_L_date 11 = .ok (.lastore, 1) := by decide +kernel
theorem d_L_date_12 : decode b_L_date 12 = .ok (.goto 11, 3) := by decide +kernel
theorem d_L_date_15 : decode b_L_date 15 = .ok (.astore 5, 2) := by decide +kernel
theorem d_L_date_17 : decode b_L_date 17 = .ok (.iconst 1, 1) := by decide +kernel
theorem d_L_date_18 : decode b_L_date 18 = .ok (.ireturn, 1) := by decide +kernel
theorem d_L_date_19 : decode b_L_date 19 = .ok (.astore 5, 2) := by decide +kernel
theorem d_L_date_21 : decode b_L_date 21 = .ok (.iconst 2, 1) := by decide +kernel
theorem d_L_date_22 : decode b_L_date 22 = .ok (.ireturn, 1) := by decide +kernel
theorem d_L_date_23 : decode b_L_date 23 = .ok (.iconst 0, 1) := by decide +kernel
theorem d_L_date_24 : decode b_L_date 24 = .ok (.ireturn, 1) := by decide +kernel
theorem d_L_agrees_0 : decode b_L_agrees 0 = .ok (.aload 4, 2) := by decide +kernel
theorem d_L_agrees_2 : decode b_L_agrees 2 = .ok (.iconst 0, 1) := by decide +kernel
theorem d_L_agrees_3 : decode b_L_agrees 3 = .ok (.aload_n 0, 1) := by decide +kernel
theorem d_L_agrees_4 : decode b_L_agrees 4 = .ok (.iload_n 1, 1) := by decide +kernel
theorem d_L_agrees_5 : decode b_L_agrees 5 = .ok (.iload_n 2, 1) := by decide +kernel
theorem d_L_agrees_6 : decode b_L_agrees 6 = .ok (.iload_n 3, 1) := by decide +kernel
theorem d_L_agrees_7 : decode b_L_agrees 7 = .ok (.invokevirtual 53, 3) := by decide +kernel
theorem d_L_agrees_10 : decode b_L_agrees 10 = .ok (.ifCond .eq 7, 3) := by decide +kernel
theorem d_L_agrees_13 : decode b_L_agrees 13 = .ok (.lconst 1, 1) := by decide +kernel
theorem d_L_agrees_14 : decode b_L_agrees 14 = .ok (.goto 4, 3) := by decide +kernel
theorem d_L_agrees_17 : decode b_L_agrees 17 = .ok (.lconst 0, 1) := by decide +kernel
theorem d_L_agrees_18 : decode b_L_agrees 18 = .ok (.lastore, 1) := by decide +kernel
theorem d_L_agrees_19 : decode b_L_agrees 19 = .ok (.goto 11, 3) := by decide +kernel
theorem d_L_agrees_22 : decode b_L_agrees 22 = .ok (.astore 5, 2) := by decide +kernel
theorem d_L_agrees_24 : decode b_L_agrees 24 = .ok (.iconst 1, 1) := by decide +kernel
theorem d_L_agrees_25 : decode b_L_agrees 25 = .ok (.ireturn, 1) := by decide +kernel
theorem d_L_agrees_26 : decode b_L_agrees 26 = .ok (.astore 5, 2) := by decide +kernel
theorem d_L_agrees_28 : decode b_L_agrees 28 = .ok (.iconst 2, 1) := by decide +kernel
theorem d_L_agrees_29 : decode b_L_agrees 29 = .ok (.ireturn, 1) := by decide +kernel
theorem d_L_agrees_30 : decode b_L_agrees 30 = .ok (.iconst 0, 1) := by decide +kernel
theorem d_L_agrees_31 : decode b_L_agrees 31 = .ok (.ireturn, 1) := by decide +kernel
theorem d_L_source_0 : decode b_L_source 0 = .ok (.aload 4, 2) := by decide +kernel
theorem d_L_source_2 : decode b_L_source 2 = .ok (.iconst 0, 1) := by decide +kernel
theorem d_L_source_3 : decode b_L_source 3 = .ok (.aload_n 0, 1) := by decide +kernel
theorem d_L_source_4 : decode b_L_source 4 = .ok (.iload_n 1, 1) := by decide +kernel
theorem d_L_source_5 : decode b_L_source 5 = .ok (.iload_n 2, 1) := by decide +kernel
theorem d_L_source_6 : decode b_L_source 6 = .ok (.iload_n 3, 1) := by decide +kernel
theorem d_L_source_7 : decode b_L_source 7 = .ok (.invokevirtual 57, 3) := by decide +kernel
theorem d_L_source_10 : decode b_L_source 10 = .ok (.i2l, 1) := by decide +kernel
theorem d_L_source_11 : decode b_L_source 11 = .ok (.lastore, 1) := by decide +kernel
theorem d_L_source_12 : decode b_L_source 12 = .ok (.goto 11, 3) := by decide +kernel
theorem d_L_source_15 : decode b_L_source 15 = .ok (.astore 5, 2) := by decide +kernel
theorem d_L_source_17 : decode b_L_source 17 = .ok (.iconst 1, 1) := by decide +kernel
theorem d_L_source_18 : decode b_L_source 18 = .ok (.ireturn, 1) := by decide +kernel
theorem d_L_source_19 : decode b_L_source 19 = .ok (.astore 5, 2) := by decide +kernel
theorem d_L_source_21 : decode b_L_source 21 = .ok (.iconst 2, 1) := by decide +kernel
theorem d_L_source_22 : decode b_L_source 22 = .ok (.ireturn, 1) := by decide +kernel
theorem d_L_source_23 : decode b_L_source 23 = .ok (.iconst 0, 1) := by decide +kernel
theorem d_L_source_24 : decode b_L_source 24 = .ok (.ireturn, 1) := by decide +kernel
theorem d_L_sapwood_0 : decode b_L_sapwood 0 = .ok (.aload_n 3, 1) := by decide +kernel
theorem d_L_sapwood_1 : decode b_L_sapwood 1 = .ok (.iconst 0, 1) := by decide +kernel
theorem d_L_sapwood_2 : decode b_L_sapwood 2 = .ok (.aload_n 0, 1) := by decide +kernel
theorem d_L_sapwood_3 : decode b_L_sapwood 3 = .ok (.iload_n 1, 1) := by decide +kernel
theorem d_L_sapwood_4 : decode b_L_sapwood 4 = .ok (.iload_n 2, 1) := by decide +kernel
theorem d_L_sapwood_5 : decode b_L_sapwood 5 = .ok (.invokevirtual 60, 3) := by decide +kernel
theorem d_L_sapwood_8 : decode b_L_sapwood 8 = .ok (.i2l, 1) := by decide +kernel
theorem d_L_sapwood_9 : decode b_L_sapwood 9 = .ok (.lastore, 1) := by decide +kernel
theorem d_L_sapwood_10 : decode b_L_sapwood 10 = .ok (.goto 7, 3) := by decide +kernel
theorem d_L_sapwood_13 : decode b_L_sapwood 13 = .ok (.astore 4, 2) := by decide +kernel
theorem d_L_sapwood_15 : decode b_L_sapwood 15 = .ok (.iconst 1, 1) := by decide +kernel
theorem d_L_sapwood_16 : decode b_L_sapwood 16 = .ok (.ireturn, 1) := by decide +kernel
theorem d_L_sapwood_17 : decode b_L_sapwood 17 = .ok (.iconst 0, 1) := by decide +kernel
theorem d_L_sapwood_18 : decode b_L_sapwood 18 = .ok (.ireturn, 1) := by decide +kernel
theorem d_L_felling_0 : decode b_L_felling 0 = .ok (.aload 5, 2) := by decide +kernel
theorem d_L_felling_2 : decode b_L_felling 2 = .ok (.iconst 0, 1) := by decide +kernel
theorem d_L_felling_3 : decode b_L_felling 3 = .ok (.aload_n 0, 1) := by decide +kernel
theorem d_L_felling_4 : decode b_L_felling 4 = .ok (.iload_n 1, 1) := by decide +kernel
theorem d_L_felling_5 : decode b_L_felling 5 = .ok (.iload_n 2, 1) := by decide +kernel
theorem d_L_felling_6 : decode b_L_felling 6 = .ok (.iload_n 3, 1) := by decide +kernel
theorem d_L_felling_7 : decode b_L_felling 7 = .ok (.iload 4, 2) := by decide +kernel
theorem d_L_felling_9 : decode b_L_felling 9 = .ok (.invokevirtual 63, 3) := by decide +kernel
theorem d_L_felling_12 : decode b_L_felling 12 = .ok (.i2l, 1) := by decide +kernel
theorem d_L_felling_13 : decode b_L_felling 13 = .ok (.lastore, 1) := by decide +kernel
theorem d_L_felling_14 : decode b_L_felling 14 = .ok (.goto 15, 3) := by decide +kernel
theorem d_L_felling_17 : decode b_L_felling 17 = .ok (.astore 6, 2) := by decide +kernel
theorem d_L_felling_19 : decode b_L_felling 19 = .ok (.iconst 1, 1) := by decide +kernel
theorem d_L_felling_20 : decode b_L_felling 20 = .ok (.ireturn, 1) := by decide +kernel
theorem d_L_felling_21 : decode b_L_felling 21 = .ok (.astore 6, 2) := by decide +kernel
theorem d_L_felling_23 : decode b_L_felling 23 = .ok (.iconst 2, 1) := by decide +kernel
theorem d_L_felling_24 : decode b_L_felling 24 = .ok (.ireturn, 1) := by decide +kernel
theorem d_L_felling_25 : decode b_L_felling 25 = .ok (.astore 6, 2) := by decide +kernel
theorem d_L_felling_27 : decode b_L_felling 27 = .ok (.iconst 3, 1) := by decide +kernel
theorem d_L_felling_28 : decode b_L_felling 28 = .ok (.ireturn, 1) := by decide +kernel
theorem d_L_felling_29 : decode b_L_felling 29 = .ok (.iconst 0, 1) := by decide +kernel
theorem d_L_felling_30 : decode b_L_felling 30 = .ok (.ireturn, 1) := by decide +kernel
theorem d_L_sameTree_0 : decode b_L_sameTree 0 = .ok (.aload_n 3, 1) := by decide +kernel
theorem d_L_sameTree_1 : decode b_L_sameTree 1 = .ok (.iconst 0, 1) := by decide +kernel
theorem d_L_sameTree_2 : decode b_L_sameTree 2 = .ok (.aload_n 0, 1) := by decide +kernel
theorem d_L_sameTree_3 : decode b_L_sameTree 3 = .ok (.iload_n 1, 1) := by decide +kernel
theorem d_L_sameTree_4 : decode b_L_sameTree 4 = .ok (.iload_n 2, 1) := by decide +kernel
theorem d_L_sameTree_5 : decode b_L_sameTree 5 = .ok (.invokevirtual 66, 3) := by decide +kernel
theorem d_L_sameTree_8 : decode b_L_sameTree 8 = .ok (.ifCond .eq 7, 3) := by decide +kernel
theorem d_L_sameTree_11 : decode b_L_sameTree 11 = .ok (.lconst 1, 1) := by decide +kernel
theorem d_L_sameTree_12 : decode b_L_sameTree 12 = .ok (.goto 4, 3) := by decide +kernel
theorem d_L_sameTree_15 : decode b_L_sameTree 15 = .ok (.lconst 0, 1) := by decide +kernel
theorem d_L_sameTree_16 : decode b_L_sameTree 16 = .ok (.lastore, 1) := by decide +kernel
theorem d_L_sameTree_17 : decode b_L_sameTree 17 = .ok (.goto 7, 3) := by decide +kernel
theorem d_L_sameTree_20 : decode b_L_sameTree 20 = .ok (.astore 4, 2) := by decide +kernel
theorem d_L_sameTree_22 : decode b_L_sameTree 22 = .ok (.iconst 1, 1) := by decide +kernel
theorem d_L_sameTree_23 : decode b_L_sameTree 23 = .ok (.ireturn, 1) := by decide +kernel
theorem d_L_sameTree_24 : decode b_L_sameTree 24 = .ok (.iconst 0, 1) := by decide +kernel
theorem d_L_sameTree_25 : decode b_L_sameTree 25 = .ok (.ireturn, 1) := by decide +kernel
theorem d_L_count_0 : decode b_L_count 0 = .ok (.aload_n 2, 1) := by decide +kernel
theorem d_L_count_1 : decode b_L_count 1 = .ok (.iconst 0, 1) := by decide +kernel
theorem d_L_count_2 : decode b_L_count 2 = .ok (.aload_n 0, 1) := by decide +kernel
theorem d_L_count_3 : decode b_L_count 3 = .ok (.iload_n 1, 1) := by decide +kernel
theorem d_L_count_4 : decode b_L_count 4 = .ok (.invokevirtual 70, 3) := by decide +kernel
theorem d_L_count_7 : decode b_L_count 7 = .ok (.i2l, 1) := by decide +kernel
theorem d_L_count_8 : decode b_L_count 8 = .ok (.lastore, 1) := by decide +kernel
theorem d_L_count_9 : decode b_L_count 9 = .ok (.goto 6, 3) := by decide +kernel
theorem d_L_count_12 : decode b_L_count 12 = .ok (.astore_n 3, 1) := by decide +kernel
theorem d_L_count_13 : decode b_L_count 13 = .ok (.iconst 1, 1) := by decide +kernel
theorem d_L_count_14 : decode b_L_count 14 = .ok (.ireturn, 1) := by decide +kernel
theorem d_L_count_15 : decode b_L_count 15 = .ok (.iconst 0, 1) := by decide +kernel
theorem d_L_count_16 : decode b_L_count 16 = .ok (.ireturn, 1) := by decide +kernel

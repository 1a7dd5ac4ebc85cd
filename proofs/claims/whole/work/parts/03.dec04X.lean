theorem dX10_cutTrains_101 : decode cX10_cutTrains 101 = .ok (.bipush 12, 2) := by decide +kernel
theorem dX10_cutTrains_103 : decode cX10_cutTrains 103 = .ok (.istore 7, 2) := by decide +kernel
theorem dX10_cutTrains_105 : decode cX10_cutTrains 105 = .ok (.iload 5, 2) := by decide +kernel
theorem dX10_cutTrains_107 : decode cX10_cutTrains 107 = .ok (.ifCond .eq 8, 3) := by decide +kernel
theorem dX10_cutTrains_110 : decode cX10_cutTrains 110 = .ok (.iload 7, 2) := by decide +kernel
theorem dX10_cutTrains_112 : decode cX10_cutTrains 112 = .ok (.goto 5, 3) := by decide +kernel
theorem dX10_cutTrains_115 : decode cX10_cutTrains 115 = .ok (.iload 6, 2) := by decide +kernel
theorem dX10_cutTrains_117 : decode cX10_cutTrains 117 = .ok (.ireturn, 1) := by decide +kernel
theorem dX10_hoursBehindFirst_0 : decode cX10_hoursBehindFirst 0 = .ok (.aload_n 0, 1) := by decide +kernel
theorem dX10_hoursBehindFirst_1 : decode cX10_hoursBehindFirst 1 = .ok (.aload_n 1, 1) := by decide +kernel
theorem dX10_hoursBehindFirst_2 : decode cX10_hoursBehindFirst 2 = .ok (.iload_n 3, 1) := by decide +kernel
theorem dX10_hoursBehindFirst_3 : decode cX10_hoursBehindFirst 3 = .ok (.iload 4, 2) := by decide +kernel
theorem dX10_hoursBehindFirst_5 : decode cX10_hoursBehindFirst 5 = .ok (.iload 5, 2) := by decide +kernel
theorem dX10_hoursBehindFirst_7 : decode cX10_hoursBehindFirst 7 = .ok (.invokevirtual 80, 3) := by decide +kernel
theorem dX10_hoursBehindFirst_10 : decode cX10_hoursBehindFirst 10 = .ok (.istore 6, 2) := by decide +kernel
theorem dX10_hoursBehindFirst_12 : decode cX10_hoursBehindFirst 12 = .ok (.iload_n 2, 1) := by decide +kernel
theorem dX10_hoursBehindFirst_13 : decode cX10_hoursBehindFirst 13 = .ok (.iconst 3, 1) := by decide +kernel
theorem dX10_hoursBehindFirst_14 : decode cX10_hoursBehindFirst 14 = .ok (.if_icmp .ge 6, 3) := by decide +kernel
theorem dX10_hoursBehindFirst_17 : decode cX10_hoursBehindFirst 17 = .ok (.iload 6, 2) := by decide +kernel
theorem dX10_hoursBehindFirst_19 : decode cX10_hoursBehindFirst 19 = .ok (.ireturn, 1) := by decide +kernel
theorem dX10_hoursBehindFirst_20 : decode cX10_hoursBehindFirst 20 = .ok (.iconst 0, 1) := by decide +kernel
theorem dX10_hoursBehindFirst_21 : decode cX10_hoursBehindFirst 21 = .ok (.istore 7, 2) := by decide +kernel
theorem dX10_hoursBehindFirst_23 : decode cX10_hoursBehindFirst 23 = .ok (.iload 7, 2) := by decide +kernel
theorem dX10_hoursBehindFirst_25 : decode cX10_hoursBehindFirst 25 = .ok (.aload_n 1, 1) := by decide +kernel
theorem dX10_hoursBehindFirst_26 : decode cX10_hoursBehindFirst 26 = .ok (.getfield 22, 3) := by decide +kernel
theorem dX10_hoursBehindFirst_29 : decode cX10_hoursBehindFirst 29 = .ok (.if_icmp .ge 31, 3) := by decide +kernel
theorem dX10_hoursBehindFirst_32 : decode cX10_hoursBehindFirst 32 = .ok (.iload 6, 2) := by decide +kernel
theorem dX10_hoursBehindFirst_34 : decode cX10_hoursBehindFirst 34 = .ok (.aload_n 0, 1) := by decide +kernel
theorem dX10_hoursBehindFirst_35 : decode cX10_hoursBehindFirst 35 = .ok (.aload_n 1, 1) := by decide +kernel
theorem dX10_hoursBehindFirst_36 : decode cX10_hoursBehindFirst 36 = .ok (.iload_n 3, 1) := by decide +kernel
theorem dX10_hoursBehindFirst_37 : decode cX10_hoursBehindFirst 37 = .ok (.iload 4, 2) := by decide +kernel
theorem dX10_hoursBehindFirst_39 : decode cX10_hoursBehindFirst 39 = .ok (.iload 5, 2) := by decide +kernel
theorem dX10_hoursBehindFirst_41 : decode cX10_hoursBehindFirst 41 = .ok (.iconst 1, 1) := by decide +kernel
theorem dX10_hoursBehindFirst_42 : decode cX10_hoursBehindFirst 42 = .ok (.iload 7, 2) := by decide +kernel
theorem dX10_hoursBehindFirst_44 : decode cX10_hoursBehindFirst 44 = .ok (.ishl, 1) := by decide +kernel
theorem dX10_hoursBehindFirst_45 : decode cX10_hoursBehindFirst 45 = .ok (.ior, 1) := by decide +kernel
theorem dX10_hoursBehindFirst_46 : decode cX10_hoursBehindFirst 46 = .ok (.invokevirtual 80, 3) := by decide +kernel
theorem dX10_hoursBehindFirst_49 : decode cX10_hoursBehindFirst 49 = .ok (.invokestatic 64, 3) := by decide +kernel
theorem dX10_hoursBehindFirst_52 : decode cX10_hoursBehindFirst 52 = .ok (.istore 6, 2) := by decide +kernel
theorem dX10_hoursBehindFirst_54 : decode cX10_hoursBehindFirst 54 = .ok (.iinc 7 1, 3) := by decide +kernel
theorem dX10_hoursBehindFirst_57 : decode cX10_hoursBehindFirst 57 = .ok (.goto (-34), 3) := by decide +kernel
theorem dX10_hoursBehindFirst_60 : decode cX10_hoursBehindFirst 60 = .ok (.iload 6, 2) := by decide +kernel
theorem dX10_hoursBehindFirst_62 : decode cX10_hoursBehindFirst 62 = .ok (.ireturn, 1) := by decide +kernel
theorem dX10_hoursWithout_0 : decode cX10_hoursWithout 0 = .ok (.aload_n 0, 1) := by decide +kernel
theorem dX10_hoursWithout_1 : decode cX10_hoursWithout 1 = .ok (.aload_n 1, 1) := by decide +kernel
theorem dX10_hoursWithout_2 : decode cX10_hoursWithout 2 = .ok (.iload_n 2, 1) := by decide +kernel
theorem dX10_hoursWithout_3 : decode cX10_hoursWithout 3 = .ok (.iconst 0, 1) := by decide +kernel
theorem dX10_hoursWithout_4 : decode cX10_hoursWithout 4 = .ok (.iload 4, 2) := by decide +kernel
theorem dX10_hoursWithout_6 : decode cX10_hoursWithout 6 = .ok (.invokevirtual 47, 3) := by decide +kernel
theorem dX10_hoursWithout_9 : decode cX10_hoursWithout 9 = .ok (.aload_n 0, 1) := by decide +kernel
theorem dX10_hoursWithout_10 : decode cX10_hoursWithout 10 = .ok (.getfield 9, 3) := by decide +kernel
theorem dX10_hoursWithout_13 : decode cX10_hoursWithout 13 = .ok (.iload_n 3, 1) := by decide +kernel
theorem dX10_hoursWithout_14 : decode cX10_hoursWithout 14 = .ok (.iaload, 1) := by decide +kernel
theorem dX10_hoursWithout_15 : decode cX10_hoursWithout 15 = .ok (.sipush 999, 3) := by decide +kernel
theorem dX10_hoursWithout_18 : decode cX10_hoursWithout 18 = .ok (.invokestatic 77, 3) := by decide +kernel
theorem dX10_hoursWithout_21 : decode cX10_hoursWithout 21 = .ok (.ireturn, 1) := by decide +kernel
theorem dX10_keyTrain_0 : decode cX10_keyTrain 0 = .ok (.iconst (-1), 1) := by decide +kernel
theorem dX10_keyTrain_1 : decode cX10_keyTrain 1 = .ok (.istore_n 3, 1) := by decide +kernel
theorem dX10_keyTrain_2 : decode cX10_keyTrain 2 = .ok (.iconst (-1), 1) := by decide +kernel
theorem dX10_keyTrain_3 : decode cX10_keyTrain 3 = .ok (.istore 4, 2) := by decide +kernel
theorem dX10_keyTrain_5 : decode cX10_keyTrain 5 = .ok (.iconst 0, 1) := by decide +kernel
theorem dX10_keyTrain_6 : decode cX10_keyTrain 6 = .ok (.istore 5, 2) := by decide +kernel
theorem dX10_keyTrain_8 : decode cX10_keyTrain 8 = .ok (.iload 5, 2) := by decide +kernel
theorem dX10_keyTrain_10 : decode cX10_keyTrain 10 = .ok (.aload_n 1, 1) := by decide +kernel
theorem dX10_keyTrain_11 : decode cX10_keyTrain 11 = .ok (.getfield 22, 3) := by decide +kernel
theorem dX10_keyTrain_14 : decode cX10_keyTrain 14 = .ok (.if_icmp .ge 34, 3) := by decide +kernel
theorem dX10_keyTrain_17 : decode cX10_keyTrain 17 = .ok (.aload_n 0, 1) := by decide +kernel
theorem dX10_keyTrain_18 : decode cX10_keyTrain 18 = .ok (.aload_n 1, 1) := by decide +kernel
theorem dX10_keyTrain_19 : decode cX10_keyTrain 19 = .ok (.iconst 1, 1) := by decide +kernel
theorem dX10_keyTrain_20 : decode cX10_keyTrain 20 = .ok (.iload 5, 2) := by decide +kernel
theorem dX10_keyTrain_22 : decode cX10_keyTrain 22 = .ok (.ishl, 1) := by decide +kernel
theorem dX10_keyTrain_23 : decode cX10_keyTrain 23 = .ok (.invokevirtual 87, 3) := by decide +kernel
theorem dX10_keyTrain_26 : decode cX10_keyTrain 26 = .ok (.istore 6, 2) := by decide +kernel
theorem dX10_keyTrain_28 : decode cX10_keyTrain 28 = .ok (.iload 6, 2) := by decide +kernel
theorem dX10_keyTrain_30 : decode cX10_keyTrain 30 = .ok (.iload 4, 2) := by decide +kernel
theorem dX10_keyTrain_32 : decode cX10_keyTrain 32 = .ok (.if_icmp .le 10, 3) := by decide +kernel
theorem dX10_keyTrain_35 : decode cX10_keyTrain 35 = .ok (.iload 6, 2) := by decide +kernel
theorem dX10_keyTrain_37 : decode cX10_keyTrain 37 = .ok (.istore 4, 2) := by decide +kernel
theorem dX10_keyTrain_39 : decode cX10_keyTrain 39 = .ok (.iload 5, 2) := by decide +kernel
theorem dX10_keyTrain_41 : decode cX10_keyTrain 41 = .ok (.istore_n 3, 1) := by decide +kernel
theorem dX10_keyTrain_42 : decode cX10_keyTrain 42 = .ok (.iinc 5 1, 3) := by decide +kernel
theorem dX10_keyTrain_45 : decode cX10_keyTrain 45 = .ok (.goto (-37), 3) := by decide +kernel
theorem dX10_keyTrain_48 : decode cX10_keyTrain 48 = .ok (.iload_n 2, 1) := by decide +kernel
theorem dX10_keyTrain_49 : decode cX10_keyTrain 49 = .ok (.ifCond .eq 8, 3) := by decide +kernel
theorem dX10_keyTrain_52 : decode cX10_keyTrain 52 = .ok (.iload 4, 2) := by decide +kernel
theorem dX10_keyTrain_54 : decode cX10_keyTrain 54 = .ok (.goto 4, 3) := by decide +kernel
theorem dX10_keyTrain_57 : decode cX10_keyTrain 57 = .ok (.iload_n 3, 1) := by decide +kernel
theorem dX10_keyTrain_58 : decode cX10_keyTrain 58 = .ok (.ireturn, 1) := by decide +kernel
theorem dX10_allHoursWithout_0 : decode cX10_allHoursWithout 0 = .ok (.iconst 0, 1) := by decide +kernel
theorem dX10_allHoursWithout_1 : decode cX10_allHoursWithout 1 = .ok (.istore_n 3, 1) := by decide +kernel
theorem dX10_allHoursWithout_2 : decode cX10_allHoursWithout 2 = .ok (.iconst 0, 1) := by decide +kernel
theorem dX10_allHoursWithout_3 : decode cX10_allHoursWithout 3 = .ok (.istore 4, 2) := by decide +kernel
theorem dX10_allHoursWithout_5 : decode cX10_allHoursWithout 5 = .ok (.iload 4, 2) := by decide +kernel
theorem dX10_allHoursWithout_7 : decode cX10_allHoursWithout 7 = .ok (.aload_n 1, 1) := by decide +kernel
theorem dX10_allHoursWithout_8 : decode cX10_allHoursWithout 8 = .ok (.getfield 16, 3) := by decide +kernel
theorem dX10_allHoursWithout_11 : decode cX10_allHoursWithout 11 = .ok (.if_icmp .ge 52, 3) := by decide +kernel
theorem dX10_allHoursWithout_14 : decode cX10_allHoursWithout 14 = .ok (.aload_n 0, 1) := by decide +kernel
theorem dX10_allHoursWithout_15 : decode cX10_allHoursWithout 15 = .ok (.aload_n 1, 1) := by decide +kernel
theorem dX10_allHoursWithout_16 : decode cX10_allHoursWithout 16 = .ok (.iload 4, 2) := by decide +kernel
theorem dX10_allHoursWithout_18 : decode cX10_allHoursWithout 18 = .ok (.iconst 0, 1) := by decide +kernel
theorem dX10_allHoursWithout_19 : decode cX10_allHoursWithout 19 = .ok (.iload_n 2, 1) := by decide +kernel
theorem dX10_allHoursWithout_20 : decode cX10_allHoursWithout 20 = .ok (.invokevirtual 47, 3) := by decide +kernel
theorem dX10_allHoursWithout_23 : decode cX10_allHoursWithout 23 = .ok (.iconst 0, 1) := by decide +kernel
theorem dX10_allHoursWithout_24 : decode cX10_allHoursWithout 24 = .ok (.istore 5, 2) := by decide +kernel
theorem dX10_allHoursWithout_26 : decode cX10_allHoursWithout 26 = .ok (.iload 5, 2) := by decide +kernel
theorem dX10_allHoursWithout_28 : decode cX10_allHoursWithout 28 = .ok (.aload_n 1, 1) := by decide +kernel
theorem dX10_allHoursWithout_29 : decode cX10_allHoursWithout 29 = .ok (.getfield 16, 3) := by decide +kernel
theorem dX10_allHoursWithout_32 : decode cX10_allHoursWithout 32 = .ok (.if_icmp .ge 25, 3) := by decide +kernel
theorem dX10_allHoursWithout_35 : decode cX10_allHoursWithout 35 = .ok (.iload_n 3, 1) := by decide +kernel
theorem dX10_allHoursWithout_36 : decode cX10_allHoursWithout 36 = .ok (.aload_n 0, 1) := by decide +kernel
theorem dX10_allHoursWithout_37 : decode cX10_allHoursWithout 37 = .ok (.getfield 9, 3) := by decide +kernel
theorem dX10_allHoursWithout_40 : decode cX10_allHoursWithout 40 = .ok (.iload 5, 2) := by decide +kernel
theorem dX10_allHoursWithout_42 : decode cX10_allHoursWithout 42 = .ok (.iaload, 1) := by decide +kernel
theorem dX10_allHoursWithout_43 : decode cX10_allHoursWithout 43 = .ok (.sipush 999, 3) := by decide +kernel
theorem dX10_allHoursWithout_46 : decode cX10_allHoursWithout 46 = .ok (.invokestatic 77, 3) := by decide +kernel
theorem dX10_allHoursWithout_49 : decode cX10_allHoursWithout 49 = .ok (.iadd, 1) := by decide +kernel
theorem dX10_allHoursWithout_50 : decode cX10_allHoursWithout 50 = .ok (.istore_n 3, 1) := by decide +kernel
theorem dX10_allHoursWithout_51 : decode cX10_allHoursWithout 51 = .ok (.iinc 5 1, 3) := by decide +kernel
theorem dX10_allHoursWithout_54 : decode cX10_allHoursWithout 54 = .ok (.goto (-28), 3) := by decide +kernel
theorem dX10_allHoursWithout_57 : decode cX10_allHoursWithout 57 = .ok (.iinc 4 1, 3) := by decide +kernel
theorem dX10_allHoursWithout_60 : decode cX10_allHoursWithout 60 = .ok (.goto (-55), 3) := by decide +kernel
theorem dX10_allHoursWithout_63 : decode cX10_allHoursWithout 63 = .ok (.iload_n 3, 1) := by decide +kernel
theorem dX10_allHoursWithout_64 : decode cX10_allHoursWithout 64 = .ok (.ireturn, 1) := by decide +kernel
theorem dX10_spareTrains_0 : decode cX10_spareTrains 0 = .ok (.iconst 0, 1) := by decide +kernel
theorem dX10_spareTrains_1 : decode cX10_spareTrains 1 = .ok (.istore_n 2, 1) := by decide +kernel
theorem dX10_spareTrains_2 : decode cX10_spareTrains 2 = .ok (.iconst 0, 1) := by decide +kernel
theorem dX10_spareTrains_3 : decode cX10_spareTrains 3 = .ok (.istore_n 3, 1) := by decide +kernel
theorem dX10_spareTrains_4 : decode cX10_spareTrains 4 = .ok (.iload_n 3, 1) := by decide +kernel
theorem dX10_spareTrains_5 : decode cX10_spareTrains 5 = .ok (.aload_n 1, 1) := by decide +kernel
theorem dX10_spareTrains_6 : decode cX10_spareTrains 6 = .ok (.getfield 22, 3) := by decide +kernel
theorem dX10_spareTrains_9 : decode cX10_spareTrains 9 = .ok (.if_icmp .ge 62, 3) := by decide +kernel
theorem dX10_spareTrains_12 : decode cX10_spareTrains 12 = .ok (.aload_n 1, 1) := by decide +kernel
theorem dX10_spareTrains_13 : decode cX10_spareTrains 13 = .ok (.getfield 90, 3) := by decide +kernel
theorem dX10_spareTrains_16 : decode cX10_spareTrains 16 = .ok (.iload_n 3, 1) := by decide +kernel
theorem dX10_spareTrains_17 : decode cX10_spareTrains 17 = .ok (.iaload, 1) := by decide +kernel
theorem dX10_spareTrains_18 : decode cX10_spareTrains 18 = .ok (.istore 4, 2) := by decide +kernel
theorem dX10_spareTrains_20 : decode cX10_spareTrains 20 = .ok (.aload_n 0, 1) := by decide +kernel
theorem dX10_spareTrains_21 : decode cX10_spareTrains 21 = .ok (.aload_n 1, 1) := by decide +kernel
theorem dX10_spareTrains_22 : decode cX10_spareTrains 22 = .ok (.aload_n 1, 1) := by decide +kernel
theorem dX10_spareTrains_23 : decode cX10_spareTrains 23 = .ok (.getfield 25, 3) := by decide +kernel
theorem dX10_spareTrains_26 : decode cX10_spareTrains 26 = .ok (.iload_n 3, 1) := by decide +kernel
theorem dX10_spareTrains_27 : decode cX10_spareTrains 27 = .ok (.iaload, 1) := by decide +kernel
theorem dX10_spareTrains_28 : decode cX10_spareTrains 28 = .ok (.iload 4, 2) := by decide +kernel
theorem dX10_spareTrains_30 : decode cX10_spareTrains 30 = .ok (.iconst 1, 1) := by decide +kernel
theorem dX10_spareTrains_31 : decode cX10_spareTrains 31 = .ok (.iload_n 3, 1) := by decide +kernel
theorem dX10_spareTrains_32 : decode cX10_spareTrains 32 = .ok (.ishl, 1) := by decide +kernel
theorem dX10_spareTrains_33 : decode cX10_spareTrains 33 = .ok (.invokevirtual 47, 3) := by decide +kernel
theorem dX10_spareTrains_36 : decode cX10_spareTrains 36 = .ok (.aload_n 0, 1) := by decide +kernel
theorem dX10_spareTrains_37 : decode cX10_spareTrains 37 = .ok (.getfield 9, 3) := by decide +kernel
theorem dX10_spareTrains_40 : decode cX10_spareTrains 40 = .ok (.aload_n 1, 1) := by decide +kernel
theorem dX10_spareTrains_41 : decode cX10_spareTrains 41 = .ok (.getfield 36, 3) := by decide +kernel
theorem dX10_spareTrains_44 : decode cX10_spareTrains 44 = .ok (.iload_n 3, 1) := by decide +kernel
theorem dX10_spareTrains_45 : decode cX10_spareTrains 45 = .ok (.iaload, 1) := by decide +kernel
theorem dX10_spareTrains_46 : decode cX10_spareTrains 46 = .ok (.iaload, 1) := by decide +kernel
theorem dX10_spareTrains_47 : decode cX10_spareTrains 47 = .ok (.iload 4, 2) := by decide +kernel
theorem dX10_spareTrains_49 : decode cX10_spareTrains 49 = .ok (.aload_n 1, 1) := by decide +kernel
theorem dX10_spareTrains_50 : decode cX10_spareTrains 50 = .ok (.getfield 93, 3) := by decide +kernel
theorem dX10_spareTrains_53 : decode cX10_spareTrains 53 = .ok (.iload_n 3, 1) := by decide +kernel
theorem dX10_spareTrains_54 : decode cX10_spareTrains 54 = .ok (.iaload, 1) := by decide +kernel
theorem dX10_spareTrains_55 : decode cX10_spareTrains 55 = .ok (.iadd, 1) := by decide +kernel
theorem dX10_spareTrains_56 : decode cX10_spareTrains 56 = .ok (.if_icmp .gt 9, 3) := by decide +kernel
theorem dX10_spareTrains_59 : decode cX10_spareTrains 59 = .ok (.iload_n 2, 1) := by decide +kernel
theorem dX10_spareTrains_60 : decode cX10_spareTrains 60 = .ok (.iconst 1, 1) := by decide +kernel
theorem dX10_spareTrains_61 : decode cX10_spareTrains 61 = .ok (.iload_n 3, 1) := by decide +kernel
theorem dX10_spareTrains_62 : decode cX10_spareTrains 62 = .ok (.ishl, 1) := by decide +kernel
theorem dX10_spareTrains_63 : decode cX10_spareTrains 63 = .ok (.ior, 1) := by decide +kernel
theorem dX10_spareTrains_64 : decode cX10_spareTrains 64 = .ok (.istore_n 2, 1) := by decide +kernel
theorem dX10_spareTrains_65 : decode cX10_spareTrains 65 = .ok (.iinc 3 1, 3) := by decide +kernel
theorem dX10_spareTrains_68 : decode cX10_spareTrains 68 = .ok (.goto (-64), 3) := by decide +kernel
theorem dX10_spareTrains_71 : decode cX10_spareTrains 71 = .ok (.iload_n 2, 1) := by decide +kernel
theorem dX10_spareTrains_72 : decode cX10_spareTrains 72 = .ok (.ireturn, 1) := by decide +kernel
theorem dX11_init_0 : decode cX11_init 0 = .ok (.aload_n 0, 1) := by decide +kernel
theorem dX11_init_1 : decode cX11_init 1 = .ok (.invokespecial 1, 3) := by decide +kernel
theorem dX11_init_4 : decode cX11_init 4 = .ok (.aload_n 0, 1) := by decide +kernel
theorem dX11_init_5 : decode cX11_init 5 = .ok (.new 7, 3) := by decide +kernel
theorem dX11_init_8 : decode cX11_init 8 = .ok (.dup, 1) := by decide +kernel
theorem dX11_init_9 : decode cX11_init 9 = .ok (.invokespecial 9, 3) := by decide +kernel
theorem dX11_init_12 : decode cX11_init 12 = .ok (.putfield 10, 3) := by decide +kernel
theorem dX11_init_15 : decode cX11_init 15 = .ok (.aload_n 0, 1) := by decide +kernel
theorem dX11_init_16 : decode cX11_init 16 = .ok (.iconst 3, 1) := by decide +kernel
theorem dX11_init_17 : decode cX11_init 17 = .ok (.anewarray 7, 3) := by decide +kernel
theorem dX11_init_20 : decode cX11_init 20 = .ok (.putfield 16, 3) := by decide +kernel
theorem dX11_init_23 : decode cX11_init 23 = .ok (.aload_n 0, 1) := by decide +kernel
theorem dX11_init_24 : decode cX11_init 24 = .ok (.new 20, 3) := by decide +kernel
theorem dX11_init_27 : decode cX11_init 27 = .ok (.dup, 1) := by decide +kernel
theorem dX11_init_28 : decode cX11_init 28 = .ok (.invokespecial 22, 3) := by decide +kernel
theorem dX11_init_31 : decode cX11_init 31 = .ok (.putfield 23, 3) := by decide +kernel
theorem dX11_init_34 : decode cX11_init 34 = .ok (.aload_n 0, 1) := by decide +kernel
theorem dX11_init_35 : decode cX11_init 35 = .ok (.new 27, 3) := by decide +kernel
theorem dX11_init_38 : decode cX11_init 38 = .ok (.dup, 1) := by decide +kernel
theorem dX11_init_39 : decode cX11_init 39 = .ok (.invokespecial 29, 3) := by decide +kernel
theorem dX11_init_42 : decode cX11_init 42 = .ok (.putfield 30, 3) := by decide +kernel
theorem dX11_init_45 : decode cX11_init 45 = .ok (.aload_n 0, 1) := by decide +kernel
theorem dX11_init_46 : decode cX11_init 46 = .ok (.new 34, 3) := by decide +kernel
theorem dX11_init_49 : decode cX11_init 49 = .ok (.dup, 1) := by decide +kernel
theorem dX11_init_50 : decode cX11_init 50 = .ok (.invokespecial 36, 3) := by decide +kernel
theorem dX11_init_53 : decode cX11_init 53 = .ok (.putfield 37, 3) := by decide +kernel
theorem dX11_init_56 : decode cX11_init 56 = .ok (.aload_n 0, 1) := by decide +kernel
theorem dX11_init_57 : decode cX11_init 57 = .ok (.new 41, 3) := by decide +kernel
theorem dX11_init_60 : decode cX11_init 60 = .ok (.dup, 1) := by decide +kernel
theorem dX11_init_61 : decode cX11_init 61 = .ok (.invokespecial 43, 3) := by decide +kernel
theorem dX11_init_64 : decode cX11_init 64 = .ok (.putfield 44, 3) := by decide +kernel
theorem dX11_init_67 : decode cX11_init 67 = .ok (.aload_n 0, 1) := by decide +kernel
theorem dX11_init_68 : decode cX11_init 68 = .ok (.new 48, 3) := by decide +kernel
theorem dX11_init_71 : decode cX11_init 71 = .ok (.dup, 1) := by decide +kernel
theorem dX11_init_72 : decode cX11_init 72 = .ok (.invokespecial 50, 3) := by decide +kernel
theorem dX11_init_75 : decode cX11_init 75 = .ok (.putfield 51, 3) := by decide +kernel
theorem dX11_init_78 : decode cX11_init 78 = .ok (.aload_n 0, 1) := by decide +kernel
theorem dX11_init_79 : decode cX11_init 79 = .ok (.new 55, 3) := by decide +kernel
theorem dX11_init_82 : decode cX11_init 82 = .ok (.dup, 1) := by decide +kernel
theorem dX11_init_83 : decode cX11_init 83 = .ok (.invokespecial 57, 3) := by decide +kernel
theorem dX11_init_86 : decode cX11_init 86 = .ok (.putfield 58, 3) := by decide +kernel
theorem dX11_init_89 : decode cX11_init 89 = .ok (.aload_n 0, 1) := by decide +kernel
theorem dX11_init_90 : decode cX11_init 90 = .ok (.new 62, 3) := by decide +kernel
theorem dX11_init_93 : decode cX11_init 93 = .ok (.dup, 1) := by decide +kernel
theorem dX11_init_94 : decode cX11_init 94 = .ok (.invokespecial 64, 3) := by decide +kernel
theorem dX11_init_97 : decode cX11_init 97 = .ok (.putfield 65, 3) := by decide +kernel
theorem dX11_init_100 : decode cX11_init 100 = .ok (.return_, 1) := by decide +kernel
theorem dX11_feed_0 : decode cX11_feed 0 = .ok (.aload_n 0, 1) := by decide +kernel
theorem dX11_feed_1 : decode cX11_feed 1 = .ok (.getfield 10, 3) := by decide +kernel
theorem dX11_feed_4 : decode cX11_feed 4 = .ok (.getfield 69, 3) := by decide +kernel
theorem dX11_feed_7 : decode cX11_feed 7 = .ok (.bipush 20, 2) := by decide +kernel
theorem dX11_feed_9 : decode cX11_feed 9 = .ok (.iadd, 1) := by decide +kernel
theorem dX11_feed_10 : decode cX11_feed 10 = .ok (.sipush 600, 3) := by decide +kernel
theorem dX11_feed_13 : decode cX11_feed 13 = .ok (.if_icmp .le 5, 3) := by decide +kernel
theorem dX11_feed_16 : decode cX11_feed 16 = .ok (.iconst (-1), 1) := by decide +kernel
theorem dX11_feed_17 : decode cX11_feed 17 = .ok (.ireturn, 1) := by decide +kernel
theorem dX11_feed_18 : decode cX11_feed 18 = .ok (.aload_n 0, 1) := by decide +kernel
theorem dX11_feed_19 : decode cX11_feed 19 = .ok (.getfield 10, 3) := by decide +kernel
theorem dX11_feed_22 : decode cX11_feed 22 = .ok (.iload_n 1, 1) := by decide +kernel
theorem dX11_feed_23 : decode cX11_feed 23 = .ok (.invokevirtual 73, 3) := by decide +kernel
theorem dX11_feed_26 : decode cX11_feed 26 = .ok (.aload_n 0, 1) := by decide +kernel
theorem dX11_feed_27 : decode cX11_feed 27 = .ok (.getfield 10, 3) := by decide +kernel
theorem dX11_feed_30 : decode cX11_feed 30 = .ok (.iload_n 2, 1) := by decide +kernel
theorem dX11_feed_31 : decode cX11_feed 31 = .ok (.invokevirtual 73, 3) := by decide +kernel
theorem dX11_feed_34 : decode cX11_feed 34 = .ok (.aload_n 0, 1) := by decide +kernel
theorem dX11_feed_35 : decode cX11_feed 35 = .ok (.getfield 10, 3) := by decide +kernel
theorem dX11_feed_38 : decode cX11_feed 38 = .ok (.iload_n 3, 1) := by decide +kernel
theorem dX11_feed_39 : decode cX11_feed 39 = .ok (.invokevirtual 73, 3) := by decide +kernel
theorem dX11_feed_42 : decode cX11_feed 42 = .ok (.aload_n 0, 1) := by decide +kernel
theorem dX11_feed_43 : decode cX11_feed 43 = .ok (.getfield 10, 3) := by decide +kernel
theorem dX11_feed_46 : decode cX11_feed 46 = .ok (.iload 4, 2) := by decide +kernel
theorem dX11_feed_48 : decode cX11_feed 48 = .ok (.invokevirtual 73, 3) := by decide +kernel
theorem dX11_feed_51 : decode cX11_feed 51 = .ok (.aload_n 0, 1) := by decide +kernel
theorem dX11_feed_52 : decode cX11_feed 52 = .ok (.getfield 10, 3) := by decide +kernel
theorem dX11_feed_55 : decode cX11_feed 55 = .ok (.iload 5, 2) := by decide +kernel
theorem dX11_feed_57 : decode cX11_feed 57 = .ok (.invokevirtual 73, 3) := by decide +kernel
theorem dX11_feed_60 : decode cX11_feed 60 = .ok (.aload_n 0, 1) := by decide +kernel
theorem dX11_feed_61 : decode cX11_feed 61 = .ok (.getfield 10, 3) := by decide +kernel
theorem dX11_feed_64 : decode cX11_feed 64 = .ok (.getfield 69, 3) := by decide +kernel
theorem dX11_feed_67 : decode cX11_feed 67 = .ok (.ireturn, 1) := by decide +kernel
theorem dX11_end_0 : decode cX11_end 0 = .ok (.iload_n 1, 1) := by decide +kernel
theorem dX11_end_1 : decode cX11_end 1 = .ok (.ifCond .lt 14, 3) := by decide +kernel
theorem dX11_end_4 : decode cX11_end 4 = .ok (.iload_n 1, 1) := by decide +kernel
theorem dX11_end_5 : decode cX11_end 5 = .ok (.aload_n 0, 1) := by decide +kernel
theorem dX11_end_6 : decode cX11_end 6 = .ok (.getfield 10, 3) := by decide +kernel
theorem dX11_end_9 : decode cX11_end 9 = .ok (.getfield 69, 3) := by decide +kernel
theorem dX11_end_12 : decode cX11_end 12 = .ok (.if_icmp .le 5, 3) := by decide +kernel
theorem dX11_end_15 : decode cX11_end 15 = .ok (.iconst (-1), 1) := by decide +kernel
theorem dX11_end_16 : decode cX11_end 16 = .ok (.ireturn, 1) := by decide +kernel
theorem dX11_end_17 : decode cX11_end 17 = .ok (.aload_n 0, 1) := by decide +kernel
theorem dX11_end_18 : decode cX11_end 18 = .ok (.getfield 10, 3) := by decide +kernel
theorem dX11_end_21 : decode cX11_end 21 = .ok (.iload_n 1, 1) := by decide +kernel
theorem dX11_end_22 : decode cX11_end 22 = .ok (.putfield 69, 3) := by decide +kernel
theorem dX11_end_25 : decode cX11_end 25 = .ok (.iload_n 1, 1) := by decide +kernel
theorem dX11_end_26 : decode cX11_end 26 = .ok (.ireturn, 1) := by decide +kernel
theorem dX11_text_0 : decode cX11_text 0 = .ok (.aload_n 0, 1) := by decide +kernel
theorem dX11_text_1 : decode cX11_text 1 = .ok (.getfield 10, 3) := by decide +kernel
theorem dX11_text_4 : decode cX11_text 4 = .ok (.getfield 69, 3) := by decide +kernel
theorem dX11_text_7 : decode cX11_text 7 = .ok (.istore_n 3, 1) := by decide +kernel
theorem dX11_text_8 : decode cX11_text 8 = .ok (.aload_n 0, 1) := by decide +kernel
theorem dX11_text_9 : decode cX11_text 9 = .ok (.getfield 10, 3) := by decide +kernel
theorem dX11_text_12 : decode cX11_text 12 = .ok (.iconst 0, 1) := by decide +kernel
theorem dX11_text_13 : decode cX11_text 13 = .ok (.putfield 69, 3) := by decide +kernel
theorem dX11_text_16 : decode cX11_text 16 = .ok (.aload_n 0, 1) := by decide +kernel
theorem dX11_text_17 : decode cX11_text 17 = .ok (.getfield 10, 3) := by decide +kernel
theorem dX11_text_20 : decode cX11_text 20 = .ok (.iconst 0, 1) := by decide +kernel
theorem dX11_text_21 : decode cX11_text 21 = .ok (.putfield 77, 3) := by decide +kernel
theorem dX11_text_24 : decode cX11_text 24 = .ok (.aload_n 0, 1) := by decide +kernel
theorem dX11_text_25 : decode cX11_text 25 = .ok (.getfield 10, 3) := by decide +kernel
theorem dX11_text_28 : decode cX11_text 28 = .ok (.iconst (-1), 1) := by decide +kernel
theorem dX11_text_29 : decode cX11_text 29 = .ok (.putfield 80, 3) := by decide +kernel
theorem dX11_text_32 : decode cX11_text 32 = .ok (.iload_n 1, 1) := by decide +kernel
theorem dX11_text_33 : decode cX11_text 33 = .ok (.ifCond .lt 8, 3) := by decide +kernel
theorem dX11_text_36 : decode cX11_text 36 = .ok (.iload_n 1, 1) := by decide +kernel
theorem dX11_text_37 : decode cX11_text 37 = .ok (.iconst 3, 1) := by decide +kernel
theorem dX11_text_38 : decode cX11_text 38 = .ok (.if_icmp .lt 6, 3) := by decide +kernel
theorem dX11_text_41 : decode cX11_text 41 = .ok (.bipush (-2), 2) := by decide +kernel
theorem dX11_text_43 : decode cX11_text 43 = .ok (.ireturn, 1) := by decide +kernel
theorem dX11_text_44 : decode cX11_text 44 = .ok (.iload_n 2, 1) := by decide +kernel
theorem dX11_text_45 : decode cX11_text 45 = .ok (.iconst (-1), 1) := by decide +kernel
theorem dX11_text_46 : decode cX11_text 46 = .ok (.if_icmp .ne 7, 3) := by decide +kernel
theorem dX11_text_49 : decode cX11_text 49 = .ok (.iconst 1, 1) := by decide +kernel
theorem dX11_text_50 : decode cX11_text 50 = .ok (.goto 4, 3) := by decide +kernel
theorem dX11_text_53 : decode cX11_text 53 = .ok (.iconst 0, 1) := by decide +kernel
theorem dX11_text_54 : decode cX11_text 54 = .ok (.istore 4, 2) := by decide +kernel
theorem dX11_text_56 : decode cX11_text 56 = .ok (.iload 4, 2) := by decide +kernel
theorem dX11_text_58 : decode cX11_text 58 = .ok (.ifCond .eq 19, 3) := by decide +kernel
theorem dX11_text_61 : decode cX11_text 61 = .ok (.aload_n 0, 1) := by decide +kernel
theorem dX11_text_62 : decode cX11_text 62 = .ok (.getfield 10, 3) := by decide +kernel
theorem dX11_text_65 : decode cX11_text 65 = .ok (.getfield 83, 3) := by decide +kernel
theorem dX11_text_68 : decode cX11_text 68 = .ok (.iload_n 1, 1) := by decide +kernel
theorem dX11_text_69 : decode cX11_text 69 = .ok (.iaload, 1) := by decide +kernel
theorem dX11_text_70 : decode cX11_text 70 = .ok (.iconst 2, 1) := by decide +kernel
theorem dX11_text_71 : decode cX11_text 71 = .ok (.if_icmp .lt 18, 3) := by decide +kernel
theorem dX11_text_74 : decode cX11_text 74 = .ok (.goto 12, 3) := by decide +kernel
theorem dX11_text_77 : decode cX11_text 77 = .ok (.aload_n 0, 1) := by decide +kernel
theorem dX11_text_78 : decode cX11_text 78 = .ok (.iload_n 1, 1) := by decide +kernel
theorem dX11_text_79 : decode cX11_text 79 = .ok (.iload_n 2, 1) := by decide +kernel
theorem dX11_text_80 : decode cX11_text 80 = .ok (.invokevirtual 87, 3) := by decide +kernel
theorem dX11_text_83 : decode cX11_text 83 = .ok (.ifCond .ne 6, 3) := by decide +kernel
theorem dX11_text_86 : decode cX11_text 86 = .ok (.bipush (-2), 2) := by decide +kernel
theorem dX11_text_88 : decode cX11_text 88 = .ok (.ireturn, 1) := by decide +kernel
theorem dX11_text_89 : decode cX11_text 89 = .ok (.aload_n 0, 1) := by decide +kernel
theorem dX11_text_90 : decode cX11_text 90 = .ok (.getfield 23, 3) := by decide +kernel
theorem dX11_text_93 : decode cX11_text 93 = .ok (.iload_n 1, 1) := by decide +kernel
theorem dX11_text_94 : decode cX11_text 94 = .ok (.aload_n 0, 1) := by decide +kernel
theorem dX11_text_95 : decode cX11_text 95 = .ok (.getfield 10, 3) := by decide +kernel
theorem dX11_text_98 : decode cX11_text 98 = .ok (.getfield 91, 3) := by decide +kernel
theorem dX11_text_101 : decode cX11_text 101 = .ok (.iload_n 3, 1) := by decide +kernel
theorem dX11_text_102 : decode cX11_text 102 = .ok (.invokevirtual 95, 3) := by decide +kernel
theorem dX11_text_105 : decode cX11_text 105 = .ok (.aload_n 0, 1) := by decide +kernel
theorem dX11_text_106 : decode cX11_text 106 = .ok (.getfield 10, 3) := by decide +kernel
theorem dX11_text_109 : decode cX11_text 109 = .ok (.aload_n 0, 1) := by decide +kernel
theorem dX11_text_110 : decode cX11_text 110 = .ok (.getfield 23, 3) := by decide +kernel
theorem dX11_text_113 : decode cX11_text 113 = .ok (.getfield 99, 3) := by decide +kernel
theorem dX11_text_116 : decode cX11_text 116 = .ok (.putfield 77, 3) := by decide +kernel
theorem dX11_text_119 : decode cX11_text 119 = .ok (.aload_n 0, 1) := by decide +kernel
theorem dX11_text_120 : decode cX11_text 120 = .ok (.getfield 10, 3) := by decide +kernel
theorem dX11_text_123 : decode cX11_text 123 = .ok (.aload_n 0, 1) := by decide +kernel
theorem dX11_text_124 : decode cX11_text 124 = .ok (.getfield 23, 3) := by decide +kernel
theorem dX11_text_127 : decode cX11_text 127 = .ok (.getfield 100, 3) := by decide +kernel
theorem dX11_text_130 : decode cX11_text 130 = .ok (.putfield 80, 3) := by decide +kernel
theorem dX11_text_133 : decode cX11_text 133 = .ok (.aload_n 0, 1) := by decide +kernel
theorem dX11_text_134 : decode cX11_text 134 = .ok (.getfield 23, 3) := by decide +kernel
theorem dX11_text_137 : decode cX11_text 137 = .ok (.getfield 99, 3) := by decide +kernel
theorem dX11_text_140 : decode cX11_text 140 = .ok (.ifCond .eq 5, 3) := by decide +kernel
theorem dX11_text_143 : decode cX11_text 143 = .ok (.iconst (-1), 1) := by decide +kernel
theorem dX11_text_144 : decode cX11_text 144 = .ok (.ireturn, 1) := by decide +kernel
theorem dX11_text_145 : decode cX11_text 145 = .ok (.iload 4, 2) := by decide +kernel
theorem dX11_text_147 : decode cX11_text 147 = .ok (.ifCond .eq 15, 3) := by decide +kernel
theorem dX11_text_150 : decode cX11_text 150 = .ok (.aload_n 0, 1) := by decide +kernel
theorem dX11_text_151 : decode cX11_text 151 = .ok (.getfield 10, 3) := by decide +kernel
theorem dX11_text_154 : decode cX11_text 154 = .ok (.getfield 83, 3) := by decide +kernel
theorem dX11_text_157 : decode cX11_text 157 = .ok (.iload_n 1, 1) := by decide +kernel
theorem dX11_text_158 : decode cX11_text 158 = .ok (.iaload, 1) := by decide +kernel
theorem dX11_text_159 : decode cX11_text 159 = .ok (.goto 4, 3) := by decide +kernel
theorem dX11_text_162 : decode cX11_text 162 = .ok (.iload_n 2, 1) := by decide +kernel
theorem dX11_text_163 : decode cX11_text 163 = .ok (.istore 5, 2) := by decide +kernel
theorem dX11_text_165 : decode cX11_text 165 = .ok (.aload_n 0, 1) := by decide +kernel
theorem dX11_text_166 : decode cX11_text 166 = .ok (.getfield 10, 3) := by decide +kernel
theorem dX11_text_169 : decode cX11_text 169 = .ok (.getfield 83, 3) := by decide +kernel
theorem dX11_text_172 : decode cX11_text 172 = .ok (.iload_n 1, 1) := by decide +kernel
theorem dX11_text_173 : decode cX11_text 173 = .ok (.aload_n 0, 1) := by decide +kernel
theorem dX11_text_174 : decode cX11_text 174 = .ok (.getfield 10, 3) := by decide +kernel
theorem dX11_text_177 : decode cX11_text 177 = .ok (.getfield 83, 3) := by decide +kernel
theorem dX11_text_180 : decode cX11_text 180 = .ok (.iload_n 1, 1) := by decide +kernel
theorem dX11_text_181 : decode cX11_text 181 = .ok (.iaload, 1) := by decide +kernel
theorem dX11_text_182 : decode cX11_text 182 = .ok (.iload 5, 2) := by decide +kernel
theorem dX11_text_184 : decode cX11_text 184 = .ok (.iconst 1, 1) := by decide +kernel
theorem dX11_text_185 : decode cX11_text 185 = .ok (.iadd, 1) := by decide +kernel
theorem dX11_text_186 : decode cX11_text 186 = .ok (.invokestatic 101, 3) := by decide +kernel
theorem dX11_text_189 : decode cX11_text 189 = .ok (.iastore, 1) := by decide +kernel
theorem dX11_text_190 : decode cX11_text 190 = .ok (.aload_n 0, 1) := by decide +kernel
theorem dX11_text_191 : decode cX11_text 191 = .ok (.iload_n 1, 1) := by decide +kernel
theorem dX11_text_192 : decode cX11_text 192 = .ok (.iload 5, 2) := by decide +kernel
theorem dX11_text_194 : decode cX11_text 194 = .ok (.invokevirtual 107, 3) := by decide +kernel
theorem dX11_text_197 : decode cX11_text 197 = .ok (.iload 5, 2) := by decide +kernel
theorem dX11_text_199 : decode cX11_text 199 = .ok (.ireturn, 1) := by decide +kernel
theorem dX11_fault_0 : decode cX11_fault 0 = .ok (.iload_n 1, 1) := by decide +kernel
theorem dX11_fault_1 : decode cX11_fault 1 = .ok (.ifCond .ne 11, 3) := by decide +kernel
theorem dX11_fault_4 : decode cX11_fault 4 = .ok (.aload_n 0, 1) := by decide +kernel
theorem dX11_fault_5 : decode cX11_fault 5 = .ok (.getfield 10, 3) := by decide +kernel
theorem dX11_fault_8 : decode cX11_fault 8 = .ok (.getfield 77, 3) := by decide +kernel
theorem dX11_fault_11 : decode cX11_fault 11 = .ok (.ireturn, 1) := by decide +kernel
theorem dX11_fault_12 : decode cX11_fault 12 = .ok (.iload_n 1, 1) := by decide +kernel
theorem dX11_fault_13 : decode cX11_fault 13 = .ok (.iconst 1, 1) := by decide +kernel
theorem dX11_fault_14 : decode cX11_fault 14 = .ok (.if_icmp .ne 13, 3) := by decide +kernel
theorem dX11_fault_17 : decode cX11_fault 17 = .ok (.aload_n 0, 1) := by decide +kernel
theorem dX11_fault_18 : decode cX11_fault 18 = .ok (.getfield 10, 3) := by decide +kernel
theorem dX11_fault_21 : decode cX11_fault 21 = .ok (.getfield 80, 3) := by decide +kernel
theorem dX11_fault_24 : decode cX11_fault 24 = .ok (.goto 4, 3) := by decide +kernel
theorem dX11_fault_27 : decode cX11_fault 27 = .ok (.iconst (-1), 1) := by decide +kernel
theorem dX11_fault_28 : decode cX11_fault 28 = .ok (.ireturn, 1) := by decide +kernel
theorem dX11_rail_0 : decode cX11_rail 0 = .ok (.aload_n 0, 1) := by decide +kernel
theorem dX11_rail_1 : decode cX11_rail 1 = .ok (.iconst 0, 1) := by decide +kernel
theorem dX11_rail_2 : decode cX11_rail 2 = .ok (.iload_n 1, 1) := by decide +kernel
theorem dX11_rail_3 : decode cX11_rail 3 = .ok (.invokevirtual 87, 3) := by decide +kernel
theorem dX11_rail_6 : decode cX11_rail 6 = .ok (.ifCond .eq 19, 3) := by decide +kernel
theorem dX11_rail_9 : decode cX11_rail 9 = .ok (.aload_n 0, 1) := by decide +kernel
theorem dX11_rail_10 : decode cX11_rail 10 = .ok (.getfield 10, 3) := by decide +kernel
theorem dX11_rail_13 : decode cX11_rail 13 = .ok (.getfield 111, 3) := by decide +kernel
theorem dX11_rail_16 : decode cX11_rail 16 = .ok (.iload_n 1, 1) := by decide +kernel
theorem dX11_rail_17 : decode cX11_rail 17 = .ok (.aaload, 1) := by decide +kernel
theorem dX11_rail_18 : decode cX11_rail 18 = .ok (.iload_n 2, 1) := by decide +kernel
theorem dX11_rail_19 : decode cX11_rail 19 = .ok (.invokevirtual 115, 3) := by decide +kernel
theorem dX11_rail_22 : decode cX11_rail 22 = .ok (.goto 4, 3) := by decide +kernel
theorem dX11_rail_25 : decode cX11_rail 25 = .ok (.iconst (-1), 1) := by decide +kernel
theorem dX11_rail_26 : decode cX11_rail 26 = .ok (.ireturn, 1) := by decide +kernel
theorem dX11_deed_0 : decode cX11_deed 0 = .ok (.aload_n 0, 1) := by decide +kernel
theorem dX11_deed_1 : decode cX11_deed 1 = .ok (.iconst 1, 1) := by decide +kernel
theorem dX11_deed_2 : decode cX11_deed 2 = .ok (.iload_n 1, 1) := by decide +kernel
theorem dX11_deed_3 : decode cX11_deed 3 = .ok (.invokevirtual 87, 3) := by decide +kernel
theorem dX11_deed_6 : decode cX11_deed 6 = .ok (.ifCond .eq 20, 3) := by decide +kernel
theorem dX11_deed_9 : decode cX11_deed 9 = .ok (.aload_n 0, 1) := by decide +kernel
theorem dX11_deed_10 : decode cX11_deed 10 = .ok (.getfield 10, 3) := by decide +kernel
theorem dX11_deed_13 : decode cX11_deed 13 = .ok (.getfield 121, 3) := by decide +kernel
theorem dX11_deed_16 : decode cX11_deed 16 = .ok (.iload_n 1, 1) := by decide +kernel
theorem dX11_deed_17 : decode cX11_deed 17 = .ok (.aaload, 1) := by decide +kernel
theorem dX11_deed_18 : decode cX11_deed 18 = .ok (.iload_n 2, 1) := by decide +kernel
theorem dX11_deed_19 : decode cX11_deed 19 = .ok (.iload_n 3, 1) := by decide +kernel
theorem dX11_deed_20 : decode cX11_deed 20 = .ok (.invokevirtual 125, 3) := by decide +kernel
theorem dX11_deed_23 : decode cX11_deed 23 = .ok (.goto 5, 3) := by decide +kernel
theorem dX11_deed_26 : decode cX11_deed 26 = .ok (.bipush (-2), 2) := by decide +kernel
theorem dX11_deed_28 : decode cX11_deed 28 = .ok (.ireturn, 1) := by decide +kernel
theorem dX11_till_0 : decode cX11_till 0 = .ok (.aload_n 0, 1) := by decide +kernel
theorem dX11_till_1 : decode cX11_till 1 = .ok (.iconst 0, 1) := by decide +kernel
theorem dX11_till_2 : decode cX11_till 2 = .ok (.iload_n 1, 1) := by decide +kernel
theorem dX11_till_3 : decode cX11_till 3 = .ok (.invokevirtual 87, 3) := by decide +kernel
theorem dX11_till_6 : decode cX11_till 6 = .ok (.ifCond .eq 12, 3) := by decide +kernel
theorem dX11_till_9 : decode cX11_till 9 = .ok (.aload_n 0, 1) := by decide +kernel
theorem dX11_till_10 : decode cX11_till 10 = .ok (.iconst 1, 1) := by decide +kernel
theorem dX11_till_11 : decode cX11_till 11 = .ok (.iload_n 2, 1) := by decide +kernel
theorem dX11_till_12 : decode cX11_till 12 = .ok (.invokevirtual 87, 3) := by decide +kernel
theorem dX11_till_15 : decode cX11_till 15 = .ok (.ifCond .ne 5, 3) := by decide +kernel
theorem dX11_till_18 : decode cX11_till 18 = .ok (.iconst (-1), 1) := by decide +kernel
theorem dX11_till_19 : decode cX11_till 19 = .ok (.ireturn, 1) := by decide +kernel
theorem dX11_till_20 : decode cX11_till 20 = .ok (.aload_n 0, 1) := by decide +kernel
theorem dX11_till_21 : decode cX11_till 21 = .ok (.getfield 30, 3) := by decide +kernel
theorem dX11_till_24 : decode cX11_till 24 = .ok (.aload_n 0, 1) := by decide +kernel
theorem dX11_till_25 : decode cX11_till 25 = .ok (.getfield 10, 3) := by decide +kernel
theorem dX11_till_28 : decode cX11_till 28 = .ok (.getfield 111, 3) := by decide +kernel
theorem dX11_till_31 : decode cX11_till 31 = .ok (.iload_n 1, 1) := by decide +kernel
theorem dX11_till_32 : decode cX11_till 32 = .ok (.aaload, 1) := by decide +kernel
theorem dX11_till_33 : decode cX11_till 33 = .ok (.aload_n 0, 1) := by decide +kernel
theorem dX11_till_34 : decode cX11_till 34 = .ok (.getfield 10, 3) := by decide +kernel
theorem dX11_till_37 : decode cX11_till 37 = .ok (.getfield 121, 3) := by decide +kernel
theorem dX11_till_40 : decode cX11_till 40 = .ok (.iload_n 2, 1) := by decide +kernel
theorem dX11_till_41 : decode cX11_till 41 = .ok (.aaload, 1) := by decide +kernel
theorem dX11_till_42 : decode cX11_till 42 = .ok (.bipush 40, 2) := by decide +kernel
theorem dX11_till_44 : decode cX11_till 44 = .ok (.invokevirtual 129, 3) := by decide +kernel
theorem dX11_till_47 : decode cX11_till 47 = .ok (.ireturn, 1) := by decide +kernel
theorem dX11_state_0 : decode cX11_state 0 = .ok (.aload_n 0, 1) := by decide +kernel
theorem dX11_state_1 : decode cX11_state 1 = .ok (.iconst 0, 1) := by decide +kernel
theorem dX11_state_2 : decode cX11_state 2 = .ok (.iload_n 1, 1) := by decide +kernel
theorem dX11_state_3 : decode cX11_state 3 = .ok (.invokevirtual 87, 3) := by decide +kernel
theorem dX11_state_6 : decode cX11_state 6 = .ok (.ifCond .eq 16, 3) := by decide +kernel
theorem dX11_state_9 : decode cX11_state 9 = .ok (.aload_n 0, 1) := by decide +kernel
theorem dX11_state_10 : decode cX11_state 10 = .ok (.iconst 1, 1) := by decide +kernel
theorem dX11_state_11 : decode cX11_state 11 = .ok (.iload_n 2, 1) := by decide +kernel
theorem dX11_state_12 : decode cX11_state 12 = .ok (.invokevirtual 87, 3) := by decide +kernel
theorem dX11_state_15 : decode cX11_state 15 = .ok (.ifCond .eq 7, 3) := by decide +kernel
theorem dX11_state_18 : decode cX11_state 18 = .ok (.iload_n 3, 1) := by decide +kernel
theorem dX11_state_19 : decode cX11_state 19 = .ok (.ifCond .ge 6, 3) := by decide +kernel
theorem dX11_state_22 : decode cX11_state 22 = .ok (.bipush (-2), 2) := by decide +kernel
theorem dX11_state_24 : decode cX11_state 24 = .ok (.ireturn, 1) := by decide +kernel
theorem dX11_state_25 : decode cX11_state 25 = .ok (.aload_n 0, 1) := by decide +kernel
theorem dX11_state_26 : decode cX11_state 26 = .ok (.getfield 10, 3) := by decide +kernel
theorem dX11_state_29 : decode cX11_state 29 = .ok (.getfield 111, 3) := by decide +kernel
theorem dX11_state_32 : decode cX11_state 32 = .ok (.iload_n 1, 1) := by decide +kernel
theorem dX11_state_33 : decode cX11_state 33 = .ok (.aaload, 1) := by decide +kernel
theorem dX11_state_34 : decode cX11_state 34 = .ok (.astore 5, 2) := by decide +kernel
theorem dX11_state_36 : decode cX11_state 36 = .ok (.aload_n 0, 1) := by decide +kernel
theorem dX11_state_37 : decode cX11_state 37 = .ok (.getfield 30, 3) := by decide +kernel
theorem dX11_state_40 : decode cX11_state 40 = .ok (.aload 5, 2) := by decide +kernel
theorem dX11_state_42 : decode cX11_state 42 = .ok (.aload_n 0, 1) := by decide +kernel
theorem dX11_state_43 : decode cX11_state 43 = .ok (.getfield 10, 3) := by decide +kernel
theorem dX11_state_46 : decode cX11_state 46 = .ok (.getfield 121, 3) := by decide +kernel
theorem dX11_state_49 : decode cX11_state 49 = .ok (.iload_n 2, 1) := by decide +kernel
theorem dX11_state_50 : decode cX11_state 50 = .ok (.aaload, 1) := by decide +kernel
theorem dX11_state_51 : decode cX11_state 51 = .ok (.iload_n 3, 1) := by decide +kernel
theorem dX11_state_52 : decode cX11_state 52 = .ok (.invokevirtual 129, 3) := by decide +kernel
theorem dX11_state_55 : decode cX11_state 55 = .ok (.iload_n 3, 1) := by decide +kernel
theorem dX11_state_56 : decode cX11_state 56 = .ok (.if_icmp .ge 6, 3) := by decide +kernel
theorem dX11_state_59 : decode cX11_state 59 = .ok (.bipush (-2), 2) := by decide +kernel
theorem dX11_state_61 : decode cX11_state 61 = .ok (.ireturn, 1) := by decide +kernel
theorem dX11_state_62 : decode cX11_state 62 = .ok (.aload_n 0, 1) := by decide +kernel
theorem dX11_state_63 : decode cX11_state 63 = .ok (.getfield 30, 3) := by decide +kernel
theorem dX11_state_66 : decode cX11_state 66 = .ok (.aload 5, 2) := by decide +kernel
theorem dX11_state_68 : decode cX11_state 68 = .ok (.iload 4, 2) := by decide +kernel
theorem dX11_state_70 : decode cX11_state 70 = .ok (.invokevirtual 133, 3) := by decide +kernel
theorem dX11_state_73 : decode cX11_state 73 = .ok (.ireturn, 1) := by decide +kernel
theorem dX11_soonest_0 : decode cX11_soonest 0 = .ok (.aload_n 0, 1) := by decide +kernel
theorem dX11_soonest_1 : decode cX11_soonest 1 = .ok (.iload_n 1, 1) := by decide +kernel
theorem dX11_soonest_2 : decode cX11_soonest 2 = .ok (.iload_n 2, 1) := by decide +kernel
theorem dX11_soonest_3 : decode cX11_soonest 3 = .ok (.invokevirtual 136, 3) := by decide +kernel
theorem dX11_soonest_6 : decode cX11_soonest 6 = .ok (.ifCond .eq 20, 3) := by decide +kernel
theorem dX11_soonest_9 : decode cX11_soonest 9 = .ok (.aload_n 0, 1) := by decide +kernel
theorem dX11_soonest_10 : decode cX11_soonest 10 = .ok (.iload_n 1, 1) := by decide +kernel
theorem dX11_soonest_11 : decode cX11_soonest 11 = .ok (.iload 4, 2) := by decide +kernel
theorem dX11_soonest_13 : decode cX11_soonest 13 = .ok (.invokevirtual 136, 3) := by decide +kernel
theorem dX11_soonest_16 : decode cX11_soonest 16 = .ok (.ifCond .eq 10, 3) := by decide +kernel
theorem dX11_soonest_19 : decode cX11_soonest 19 = .ok (.iload_n 3, 1) := by decide +kernel
theorem dX11_soonest_20 : decode cX11_soonest 20 = .ok (.invokestatic 139, 3) := by decide +kernel
theorem dX11_soonest_23 : decode cX11_soonest 23 = .ok (.ifCond .ne 6, 3) := by decide +kernel
theorem dX11_soonest_26 : decode cX11_soonest 26 = .ok (.bipush (-2), 2) := by decide +kernel
theorem dX11_soonest_28 : decode cX11_soonest 28 = .ok (.ireturn, 1) := by decide +kernel
theorem dX11_soonest_29 : decode cX11_soonest 29 = .ok (.aload_n 0, 1) := by decide +kernel
theorem dX11_soonest_30 : decode cX11_soonest 30 = .ok (.getfield 10, 3) := by decide +kernel
theorem dX11_soonest_33 : decode cX11_soonest 33 = .ok (.getfield 111, 3) := by decide +kernel
theorem dX11_soonest_36 : decode cX11_soonest 36 = .ok (.iload_n 1, 1) := by decide +kernel
theorem dX11_soonest_37 : decode cX11_soonest 37 = .ok (.aaload, 1) := by decide +kernel
theorem dX11_soonest_38 : decode cX11_soonest 38 = .ok (.astore 6, 2) := by decide +kernel
theorem dX11_soonest_40 : decode cX11_soonest 40 = .ok (.aload_n 0, 1) := by decide +kernel
theorem dX11_soonest_41 : decode cX11_soonest 41 = .ok (.getfield 37, 3) := by decide +kernel
theorem dX11_soonest_44 : decode cX11_soonest 44 = .ok (.aload 6, 2) := by decide +kernel
theorem dX11_soonest_46 : decode cX11_soonest 46 = .ok (.iload_n 2, 1) := by decide +kernel
theorem dX11_soonest_47 : decode cX11_soonest 47 = .ok (.iload_n 3, 1) := by decide +kernel
theorem dX11_soonest_48 : decode cX11_soonest 48 = .ok (.iload 4, 2) := by decide +kernel
theorem dX11_soonest_50 : decode cX11_soonest 50 = .ok (.invokevirtual 143, 3) := by decide +kernel
theorem dX11_soonest_53 : decode cX11_soonest 53 = .ok (.istore 7, 2) := by decide +kernel
theorem dX11_soonest_55 : decode cX11_soonest 55 = .ok (.iload 7, 2) := by decide +kernel
theorem dX11_soonest_57 : decode cX11_soonest 57 = .ok (.ldc 147, 2) := by decide +kernel
theorem dX11_soonest_59 : decode cX11_soonest 59 = .ok (.if_icmp .ne 6, 3) := by decide +kernel
theorem dX11_soonest_62 : decode cX11_soonest 62 = .ok (.bipush (-2), 2) := by decide +kernel
theorem dX11_soonest_64 : decode cX11_soonest 64 = .ok (.ireturn, 1) := by decide +kernel
theorem dX11_soonest_65 : decode cX11_soonest 65 = .ok (.iload 5, 2) := by decide +kernel
theorem dX11_soonest_67 : decode cX11_soonest 67 = .ok (.ifCond .eq 19, 3) := by decide +kernel
theorem dX11_soonest_70 : decode cX11_soonest 70 = .ok (.aload_n 0, 1) := by decide +kernel
theorem dX11_soonest_71 : decode cX11_soonest 71 = .ok (.getfield 37, 3) := by decide +kernel
theorem dX11_soonest_74 : decode cX11_soonest 74 = .ok (.aload 6, 2) := by decide +kernel
theorem dX11_soonest_76 : decode cX11_soonest 76 = .ok (.iload_n 2, 1) := by decide +kernel
theorem dX11_soonest_77 : decode cX11_soonest 77 = .ok (.iload_n 3, 1) := by decide +kernel
theorem dX11_soonest_78 : decode cX11_soonest 78 = .ok (.iload 4, 2) := by decide +kernel
theorem dX11_soonest_80 : decode cX11_soonest 80 = .ok (.invokevirtual 148, 3) := by decide +kernel
theorem dX11_soonest_83 : decode cX11_soonest 83 = .ok (.goto 5, 3) := by decide +kernel
theorem dX11_soonest_86 : decode cX11_soonest 86 = .ok (.iload 7, 2) := by decide +kernel
theorem dX11_soonest_88 : decode cX11_soonest 88 = .ok (.ireturn, 1) := by decide +kernel
theorem dX11_duty_0 : decode cX11_duty 0 = .ok (.aload_n 0, 1) := by decide +kernel
theorem dX11_duty_1 : decode cX11_duty 1 = .ok (.iload_n 1, 1) := by decide +kernel
theorem dX11_duty_2 : decode cX11_duty 2 = .ok (.iload_n 2, 1) := by decide +kernel
theorem dX11_duty_3 : decode cX11_duty 3 = .ok (.invokevirtual 151, 3) := by decide +kernel
theorem dX11_duty_6 : decode cX11_duty 6 = .ok (.ifCond .eq 19, 3) := by decide +kernel
theorem dX11_duty_9 : decode cX11_duty 9 = .ok (.aload_n 0, 1) := by decide +kernel
theorem dX11_duty_10 : decode cX11_duty 10 = .ok (.getfield 10, 3) := by decide +kernel
theorem dX11_duty_13 : decode cX11_duty 13 = .ok (.getfield 111, 3) := by decide +kernel
theorem dX11_duty_16 : decode cX11_duty 16 = .ok (.iload_n 1, 1) := by decide +kernel
theorem dX11_duty_17 : decode cX11_duty 17 = .ok (.aaload, 1) := by decide +kernel
theorem dX11_duty_18 : decode cX11_duty 18 = .ok (.iload_n 2, 1) := by decide +kernel
theorem dX11_duty_19 : decode cX11_duty 19 = .ok (.invokevirtual 154, 3) := by decide +kernel
theorem dX11_duty_22 : decode cX11_duty 22 = .ok (.goto 4, 3) := by decide +kernel
theorem dX11_duty_25 : decode cX11_duty 25 = .ok (.iconst (-1), 1) := by decide +kernel
theorem dX11_duty_26 : decode cX11_duty 26 = .ok (.ireturn, 1) := by decide +kernel
theorem dX11_round_0 : decode cX11_round 0 = .ok (.aload_n 0, 1) := by decide +kernel
theorem dX11_round_1 : decode cX11_round 1 = .ok (.iload_n 1, 1) := by decide +kernel
theorem dX11_round_2 : decode cX11_round 2 = .ok (.iload_n 2, 1) := by decide +kernel
theorem dX11_round_3 : decode cX11_round 3 = .ok (.invokevirtual 151, 3) := by decide +kernel
theorem dX11_round_6 : decode cX11_round 6 = .ok (.ifCond .ne 5, 3) := by decide +kernel
theorem dX11_round_9 : decode cX11_round 9 = .ok (.iconst (-1), 1) := by decide +kernel
theorem dX11_round_10 : decode cX11_round 10 = .ok (.ireturn, 1) := by decide +kernel
theorem dX11_round_11 : decode cX11_round 11 = .ok (.aload_n 0, 1) := by decide +kernel
theorem dX11_round_12 : decode cX11_round 12 = .ok (.getfield 44, 3) := by decide +kernel
theorem dX11_round_15 : decode cX11_round 15 = .ok (.aload_n 0, 1) := by decide +kernel
theorem dX11_round_16 : decode cX11_round 16 = .ok (.getfield 10, 3) := by decide +kernel
theorem dX11_round_19 : decode cX11_round 19 = .ok (.getfield 111, 3) := by decide +kernel
theorem dX11_round_22 : decode cX11_round 22 = .ok (.iload_n 1, 1) := by decide +kernel
theorem dX11_round_23 : decode cX11_round 23 = .ok (.aaload, 1) := by decide +kernel
theorem dX11_round_24 : decode cX11_round 24 = .ok (.iload_n 2, 1) := by decide +kernel
theorem dX11_round_25 : decode cX11_round 25 = .ok (.invokevirtual 157, 3) := by decide +kernel
theorem dX11_round_28 : decode cX11_round 28 = .ok (.aload_n 0, 1) := by decide +kernel
theorem dX11_round_29 : decode cX11_round 29 = .ok (.getfield 44, 3) := by decide +kernel
theorem dX11_round_32 : decode cX11_round 32 = .ok (.iload_n 3, 1) := by decide +kernel
theorem dX11_round_33 : decode cX11_round 33 = .ok (.invokevirtual 161, 3) := by decide +kernel
theorem dX11_round_36 : decode cX11_round 36 = .ok (.ireturn, 1) := by decide +kernel
theorem dX11_meeting_0 : decode cX11_meeting 0 = .ok (.aload_n 0, 1) := by decide +kernel
theorem dX11_meeting_1 : decode cX11_meeting 1 = .ok (.iload_n 1, 1) := by decide +kernel
theorem dX11_meeting_2 : decode cX11_meeting 2 = .ok (.iload_n 2, 1) := by decide +kernel
theorem dX11_meeting_3 : decode cX11_meeting 3 = .ok (.invokevirtual 151, 3) := by decide +kernel
theorem dX11_meeting_6 : decode cX11_meeting 6 = .ok (.ifCond .eq 12, 3) := by decide +kernel
theorem dX11_meeting_9 : decode cX11_meeting 9 = .ok (.aload_n 0, 1) := by decide +kernel
theorem dX11_meeting_10 : decode cX11_meeting 10 = .ok (.iload_n 1, 1) := by decide +kernel
theorem dX11_meeting_11 : decode cX11_meeting 11 = .ok (.iload_n 3, 1) := by decide +kernel
theorem dX11_meeting_12 : decode cX11_meeting 12 = .ok (.invokevirtual 151, 3) := by decide +kernel
theorem dX11_meeting_15 : decode cX11_meeting 15 = .ok (.ifCond .ne 5, 3) := by decide +kernel
theorem dX11_meeting_18 : decode cX11_meeting 18 = .ok (.iconst (-1), 1) := by decide +kernel
theorem dX11_meeting_19 : decode cX11_meeting 19 = .ok (.ireturn, 1) := by decide +kernel
theorem dX11_meeting_20 : decode cX11_meeting 20 = .ok (.aload_n 0, 1) := by decide +kernel
theorem dX11_meeting_21 : decode cX11_meeting 21 = .ok (.getfield 37, 3) := by decide +kernel
theorem dX11_meeting_24 : decode cX11_meeting 24 = .ok (.aload_n 0, 1) := by decide +kernel
theorem dX11_meeting_25 : decode cX11_meeting 25 = .ok (.getfield 10, 3) := by decide +kernel
theorem dX11_meeting_28 : decode cX11_meeting 28 = .ok (.getfield 111, 3) := by decide +kernel
theorem dX11_meeting_31 : decode cX11_meeting 31 = .ok (.iload_n 1, 1) := by decide +kernel
theorem dX11_meeting_32 : decode cX11_meeting 32 = .ok (.aaload, 1) := by decide +kernel
theorem dX11_meeting_33 : decode cX11_meeting 33 = .ok (.iconst 1, 1) := by decide +kernel
theorem dX11_meeting_34 : decode cX11_meeting 34 = .ok (.iload_n 2, 1) := by decide +kernel
theorem dX11_meeting_35 : decode cX11_meeting 35 = .ok (.ishl, 1) := by decide +kernel
theorem dX11_meeting_36 : decode cX11_meeting 36 = .ok (.iconst 1, 1) := by decide +kernel
theorem dX11_meeting_37 : decode cX11_meeting 37 = .ok (.iload_n 3, 1) := by decide +kernel
theorem dX11_meeting_38 : decode cX11_meeting 38 = .ok (.ishl, 1) := by decide +kernel
theorem dX11_meeting_39 : decode cX11_meeting 39 = .ok (.ior, 1) := by decide +kernel
theorem dX11_meeting_40 : decode cX11_meeting 40 = .ok (.iload 4, 2) := by decide +kernel
theorem dX11_meeting_42 : decode cX11_meeting 42 = .ok (.invokevirtual 162, 3) := by decide +kernel
theorem dX11_meeting_45 : decode cX11_meeting 45 = .ok (.ireturn, 1) := by decide +kernel
theorem dX11_offices_0 : decode cX11_offices 0 = .ok (.aload_n 0, 1) := by decide +kernel
theorem dX11_offices_1 : decode cX11_offices 1 = .ok (.iconst 0, 1) := by decide +kernel
theorem dX11_offices_2 : decode cX11_offices 2 = .ok (.iload_n 1, 1) := by decide +kernel
theorem dX11_offices_3 : decode cX11_offices 3 = .ok (.invokevirtual 87, 3) := by decide +kernel
theorem dX11_offices_6 : decode cX11_offices 6 = .ok (.ifCond .eq 24, 3) := by decide +kernel
theorem dX11_offices_9 : decode cX11_offices 9 = .ok (.iload_n 2, 1) := by decide +kernel
theorem dX11_offices_10 : decode cX11_offices 10 = .ok (.iconst 1, 1) := by decide +kernel
theorem dX11_offices_11 : decode cX11_offices 11 = .ok (.if_icmp .lt 19, 3) := by decide +kernel
theorem dX11_offices_14 : decode cX11_offices 14 = .ok (.iload_n 2, 1) := by decide +kernel
theorem dX11_offices_15 : decode cX11_offices 15 = .ok (.aload_n 0, 1) := by decide +kernel
theorem dX11_offices_16 : decode cX11_offices 16 = .ok (.getfield 10, 3) := by decide +kernel
theorem dX11_offices_19 : decode cX11_offices 19 = .ok (.getfield 111, 3) := by decide +kernel
theorem dX11_offices_22 : decode cX11_offices 22 = .ok (.iload_n 1, 1) := by decide +kernel
theorem dX11_offices_23 : decode cX11_offices 23 = .ok (.aaload, 1) := by decide +kernel
theorem dX11_offices_24 : decode cX11_offices 24 = .ok (.getfield 166, 3) := by decide +kernel
theorem dX11_offices_27 : decode cX11_offices 27 = .ok (.if_icmp .le 5, 3) := by decide +kernel
theorem dX11_offices_30 : decode cX11_offices 30 = .ok (.iconst (-1), 1) := by decide +kernel
theorem dX11_offices_31 : decode cX11_offices 31 = .ok (.ireturn, 1) := by decide +kernel
theorem dX11_offices_32 : decode cX11_offices 32 = .ok (.aload_n 0, 1) := by decide +kernel
theorem dX11_offices_33 : decode cX11_offices 33 = .ok (.getfield 37, 3) := by decide +kernel
theorem dX11_offices_36 : decode cX11_offices 36 = .ok (.aload_n 0, 1) := by decide +kernel
theorem dX11_offices_37 : decode cX11_offices 37 = .ok (.getfield 10, 3) := by decide +kernel
theorem dX11_offices_40 : decode cX11_offices 40 = .ok (.getfield 111, 3) := by decide +kernel
theorem dX11_offices_43 : decode cX11_offices 43 = .ok (.iload_n 1, 1) := by decide +kernel
theorem dX11_offices_44 : decode cX11_offices 44 = .ok (.aaload, 1) := by decide +kernel
theorem dX11_offices_45 : decode cX11_offices 45 = .ok (.iload_n 2, 1) := by decide +kernel
theorem dX11_offices_46 : decode cX11_offices 46 = .ok (.iload_n 3, 1) := by decide +kernel
theorem dX11_offices_47 : decode cX11_offices 47 = .ok (.invokevirtual 169, 3) := by decide +kernel
theorem dX11_offices_50 : decode cX11_offices 50 = .ok (.ireturn, 1) := by decide +kernel
theorem dX11_cut_0 : decode cX11_cut 0 = .ok (.aload_n 0, 1) := by decide +kernel
theorem dX11_cut_1 : decode cX11_cut 1 = .ok (.iload_n 1, 1) := by decide +kernel
theorem dX11_cut_2 : decode cX11_cut 2 = .ok (.iload_n 3, 1) := by decide +kernel
theorem dX11_cut_3 : decode cX11_cut 3 = .ok (.invokevirtual 136, 3) := by decide +kernel
theorem dX11_cut_6 : decode cX11_cut 6 = .ok (.ifCond .eq 22, 3) := by decide +kernel
theorem dX11_cut_9 : decode cX11_cut 9 = .ok (.aload_n 0, 1) := by decide +kernel
theorem dX11_cut_10 : decode cX11_cut 10 = .ok (.iload_n 1, 1) := by decide +kernel
theorem dX11_cut_11 : decode cX11_cut 11 = .ok (.iload 4, 2) := by decide +kernel
theorem dX11_cut_13 : decode cX11_cut 13 = .ok (.invokevirtual 136, 3) := by decide +kernel
theorem dX11_cut_16 : decode cX11_cut 16 = .ok (.ifCond .eq 12, 3) := by decide +kernel
theorem dX11_cut_19 : decode cX11_cut 19 = .ok (.iload_n 2, 1) := by decide +kernel
theorem dX11_cut_20 : decode cX11_cut 20 = .ok (.ifCond .lt 8, 3) := by decide +kernel
theorem dX11_cut_23 : decode cX11_cut 23 = .ok (.iload_n 2, 1) := by decide +kernel
theorem dX11_cut_24 : decode cX11_cut 24 = .ok (.iconst 3, 1) := by decide +kernel
theorem dX11_cut_25 : decode cX11_cut 25 = .ok (.if_icmp .le 6, 3) := by decide +kernel
theorem dX11_cut_28 : decode cX11_cut 28 = .ok (.bipush (-2), 2) := by decide +kernel
theorem dX11_cut_30 : decode cX11_cut 30 = .ok (.ireturn, 1) := by decide +kernel
theorem dX11_cut_31 : decode cX11_cut 31 = .ok (.aload_n 0, 1) := by decide +kernel
theorem dX11_cut_32 : decode cX11_cut 32 = .ok (.getfield 37, 3) := by decide +kernel
theorem dX11_cut_35 : decode cX11_cut 35 = .ok (.aload_n 0, 1) := by decide +kernel
theorem dX11_cut_36 : decode cX11_cut 36 = .ok (.getfield 10, 3) := by decide +kernel
theorem dX11_cut_39 : decode cX11_cut 39 = .ok (.getfield 111, 3) := by decide +kernel
theorem dX11_cut_42 : decode cX11_cut 42 = .ok (.iload_n 1, 1) := by decide +kernel
theorem dX11_cut_43 : decode cX11_cut 43 = .ok (.aaload, 1) := by decide +kernel
theorem dX11_cut_44 : decode cX11_cut 44 = .ok (.iload_n 2, 1) := by decide +kernel
theorem dX11_cut_45 : decode cX11_cut 45 = .ok (.iload_n 3, 1) := by decide +kernel
theorem dX11_cut_46 : decode cX11_cut 46 = .ok (.iload 4, 2) := by decide +kernel
theorem dX11_cut_48 : decode cX11_cut 48 = .ok (.iload 5, 2) := by decide +kernel
theorem dX11_cut_50 : decode cX11_cut 50 = .ok (.invokevirtual 172, 3) := by decide +kernel
theorem dX11_cut_53 : decode cX11_cut 53 = .ok (.ireturn, 1) := by decide +kernel
theorem dX11_mean_0 : decode cX11_mean 0 = .ok (.aload_n 0, 1) := by decide +kernel
theorem dX11_mean_1 : decode cX11_mean 1 = .ok (.iconst 0, 1) := by decide +kernel
theorem dX11_mean_2 : decode cX11_mean 2 = .ok (.iload_n 1, 1) := by decide +kernel
theorem dX11_mean_3 : decode cX11_mean 3 = .ok (.invokevirtual 87, 3) := by decide +kernel
theorem dX11_mean_6 : decode cX11_mean 6 = .ok (.ifCond .eq 23, 3) := by decide +kernel
theorem dX11_mean_9 : decode cX11_mean 9 = .ok (.iload_n 2, 1) := by decide +kernel
theorem dX11_mean_10 : decode cX11_mean 10 = .ok (.ifCond .lt 19, 3) := by decide +kernel
theorem dX11_mean_13 : decode cX11_mean 13 = .ok (.iload_n 2, 1) := by decide +kernel
theorem dX11_mean_14 : decode cX11_mean 14 = .ok (.aload_n 0, 1) := by decide +kernel
theorem dX11_mean_15 : decode cX11_mean 15 = .ok (.getfield 10, 3) := by decide +kernel
theorem dX11_mean_18 : decode cX11_mean 18 = .ok (.getfield 111, 3) := by decide +kernel
theorem dX11_mean_21 : decode cX11_mean 21 = .ok (.iload_n 1, 1) := by decide +kernel
theorem dX11_mean_22 : decode cX11_mean 22 = .ok (.aaload, 1) := by decide +kernel
theorem dX11_mean_23 : decode cX11_mean 23 = .ok (.getfield 176, 3) := by decide +kernel
theorem dX11_mean_26 : decode cX11_mean 26 = .ok (.if_icmp .lt 7, 3) := by decide +kernel
theorem dX11_mean_29 : decode cX11_mean 29 = .ok (.ldc2_w 179, 3) := by decide +kernel
theorem dX11_mean_32 : decode cX11_mean 32 = .ok (.lreturn, 1) := by decide +kernel
theorem dX11_mean_33 : decode cX11_mean 33 = .ok (.iload_n 3, 1) := by decide +kernel
theorem dX11_mean_34 : decode cX11_mean 34 = .ok (.invokestatic 139, 3) := by decide +kernel
theorem dX11_mean_37 : decode cX11_mean 37 = .ok (.ifCond .eq 15, 3) := by decide +kernel
theorem dX11_mean_40 : decode cX11_mean 40 = .ok (.iload 4, 2) := by decide +kernel
theorem dX11_mean_42 : decode cX11_mean 42 = .ok (.ifCond .lt 10, 3) := by decide +kernel
theorem dX11_mean_45 : decode cX11_mean 45 = .ok (.iload 4, 2) := by decide +kernel
theorem dX11_mean_47 : decode cX11_mean 47 = .ok (.bipush 9, 2) := by decide +kernel
theorem dX11_mean_49 : decode cX11_mean 49 = .ok (.if_icmp .le 7, 3) := by decide +kernel
theorem dX11_mean_52 : decode cX11_mean 52 = .ok (.ldc2_w 179, 3) := by decide +kernel
theorem dX11_mean_55 : decode cX11_mean 55 = .ok (.lreturn, 1) := by decide +kernel
theorem dX11_mean_56 : decode cX11_mean 56 = .ok (.aload_n 0, 1) := by decide +kernel
theorem dX11_mean_57 : decode cX11_mean 57 = .ok (.getfield 10, 3) := by decide +kernel
theorem dX11_mean_60 : decode cX11_mean 60 = .ok (.getfield 111, 3) := by decide +kernel
theorem dX11_mean_63 : decode cX11_mean 63 = .ok (.iload_n 1, 1) := by decide +kernel
theorem dX11_mean_64 : decode cX11_mean 64 = .ok (.aaload, 1) := by decide +kernel
theorem dX11_mean_65 : decode cX11_mean 65 = .ok (.astore 6, 2) := by decide +kernel
theorem dX11_mean_67 : decode cX11_mean 67 = .ok (.bipush 10, 2) := by decide +kernel
theorem dX11_mean_69 : decode cX11_mean 69 = .ok (.iload 4, 2) := by decide +kernel
theorem dX11_mean_71 : decode cX11_mean 71 = .ok (.isub, 1) := by decide +kernel
theorem dX11_mean_72 : decode cX11_mean 72 = .ok (.i2l, 1) := by decide +kernel
theorem dX11_mean_73 : decode cX11_mean 73 = .ok (.lstore 7, 2) := by decide +kernel
theorem dX11_mean_75 : decode cX11_mean 75 = .ok (.aload 6, 2) := by decide +kernel
theorem dX11_mean_77 : decode cX11_mean 77 = .ok (.iload_n 2, 1) := by decide +kernel
theorem dX11_mean_78 : decode cX11_mean 78 = .ok (.iload_n 3, 1) := by decide +kernel
theorem dX11_mean_79 : decode cX11_mean 79 = .ok (.invokevirtual 181, 3) := by decide +kernel
theorem dX11_mean_82 : decode cX11_mean 82 = .ok (.i2l, 1) := by decide +kernel
theorem dX11_mean_83 : decode cX11_mean 83 = .ok (.lload 7, 2) := by decide +kernel
theorem dX11_mean_85 : decode cX11_mean 85 = .ok (.lmul, 1) := by decide +kernel
theorem dX11_mean_86 : decode cX11_mean 86 = .ok (.ldc2_w 184, 3) := by decide +kernel
theorem dX11_mean_89 : decode cX11_mean 89 = .ok (.iload 4, 2) := by decide +kernel
theorem dX11_mean_91 : decode cX11_mean 91 = .ok (.i2l, 1) := by decide +kernel
theorem dX11_mean_92 : decode cX11_mean 92 = .ok (.lmul, 1) := by decide +kernel
theorem dX11_mean_93 : decode cX11_mean 93 = .ok (.ladd, 1) := by decide +kernel
theorem dX11_mean_94 : decode cX11_mean 94 = .ok (.lstore 9, 2) := by decide +kernel
theorem dX11_mean_96 : decode cX11_mean 96 = .ok (.lload 9, 2) := by decide +kernel
theorem dX11_mean_98 : decode cX11_mean 98 = .ok (.lload 7, 2) := by decide +kernel
theorem dX11_mean_100 : decode cX11_mean 100 = .ok (.invokestatic 186, 3) := by decide +kernel
theorem dX11_mean_103 : decode cX11_mean 103 = .ok (.lstore 11, 2) := by decide +kernel
theorem dX11_mean_105 : decode cX11_mean 105 = .ok (.iload 5, 2) := by decide +kernel
theorem dX11_mean_107 : decode cX11_mean 107 = .ok (.ifCond .eq 8, 3) := by decide +kernel
theorem dX11_mean_110 : decode cX11_mean 110 = .ok (.lload 7, 2) := by decide +kernel
theorem dX11_mean_112 : decode cX11_mean 112 = .ok (.goto 5, 3) := by decide +kernel
theorem dX11_mean_115 : decode cX11_mean 115 = .ok (.lload 9, 2) := by decide +kernel
theorem dX11_mean_117 : decode cX11_mean 117 = .ok (.lload 11, 2) := by decide +kernel
theorem dX11_mean_119 : decode cX11_mean 119 = .ok (.ldiv, 1) := by decide +kernel
theorem dX11_mean_120 : decode cX11_mean 120 = .ok (.lreturn, 1) := by decide +kernel
theorem dX11_ring_0 : decode cX11_ring 0 = .ok (.aload_n 0, 1) := by decide +kernel
theorem dX11_ring_1 : decode cX11_ring 1 = .ok (.iconst 0, 1) := by decide +kernel
theorem dX11_ring_2 : decode cX11_ring 2 = .ok (.iload_n 1, 1) := by decide +kernel
theorem dX11_ring_3 : decode cX11_ring 3 = .ok (.invokevirtual 87, 3) := by decide +kernel
theorem dX11_ring_6 : decode cX11_ring 6 = .ok (.ifCond .eq 23, 3) := by decide +kernel
theorem dX11_ring_9 : decode cX11_ring 9 = .ok (.aload_n 0, 1) := by decide +kernel
theorem dX11_ring_10 : decode cX11_ring 10 = .ok (.getfield 58, 3) := by decide +kernel
theorem dX11_ring_13 : decode cX11_ring 13 = .ok (.aload_n 0, 1) := by decide +kernel
theorem dX11_ring_14 : decode cX11_ring 14 = .ok (.getfield 10, 3) := by decide +kernel
theorem dX11_ring_17 : decode cX11_ring 17 = .ok (.getfield 111, 3) := by decide +kernel
theorem dX11_ring_20 : decode cX11_ring 20 = .ok (.iload_n 1, 1) := by decide +kernel
theorem dX11_ring_21 : decode cX11_ring 21 = .ok (.aaload, 1) := by decide +kernel
theorem dX11_ring_22 : decode cX11_ring 22 = .ok (.iload_n 2, 1) := by decide +kernel
theorem dX11_ring_23 : decode cX11_ring 23 = .ok (.invokevirtual 190, 3) := by decide +kernel
theorem dX11_ring_26 : decode cX11_ring 26 = .ok (.goto 5, 3) := by decide +kernel
theorem dX11_ring_29 : decode cX11_ring 29 = .ok (.bipush (-2), 2) := by decide +kernel
theorem dX11_ring_31 : decode cX11_ring 31 = .ok (.ireturn, 1) := by decide +kernel
theorem dX11_counts_0 : decode cX11_counts 0 = .ok (.aload_n 0, 1) := by decide +kernel
theorem dX11_counts_1 : decode cX11_counts 1 = .ok (.iconst 0, 1) := by decide +kernel
theorem dX11_counts_2 : decode cX11_counts 2 = .ok (.iload_n 1, 1) := by decide +kernel
theorem dX11_counts_3 : decode cX11_counts 3 = .ok (.invokevirtual 87, 3) := by decide +kernel
theorem dX11_counts_6 : decode cX11_counts 6 = .ok (.ifCond .eq 12, 3) := by decide +kernel
theorem dX11_counts_9 : decode cX11_counts 9 = .ok (.iload_n 3, 1) := by decide +kernel
theorem dX11_counts_10 : decode cX11_counts 10 = .ok (.ifCond .lt 8, 3) := by decide +kernel
theorem dX11_counts_13 : decode cX11_counts 13 = .ok (.iload_n 3, 1) := by decide +kernel
theorem dX11_counts_14 : decode cX11_counts 14 = .ok (.iconst 4, 1) := by decide +kernel
theorem dX11_counts_15 : decode cX11_counts 15 = .ok (.if_icmp .lt 5, 3) := by decide +kernel
theorem dX11_counts_18 : decode cX11_counts 18 = .ok (.iconst (-1), 1) := by decide +kernel
theorem dX11_counts_19 : decode cX11_counts 19 = .ok (.ireturn, 1) := by decide +kernel
theorem dX11_counts_20 : decode cX11_counts 20 = .ok (.aload_n 0, 1) := by decide +kernel
theorem dX11_counts_21 : decode cX11_counts 21 = .ok (.getfield 10, 3) := by decide +kernel
theorem dX11_counts_24 : decode cX11_counts 24 = .ok (.getfield 111, 3) := by decide +kernel
theorem dX11_counts_27 : decode cX11_counts 27 = .ok (.iload_n 1, 1) := by decide +kernel
theorem dX11_counts_28 : decode cX11_counts 28 = .ok (.aaload, 1) := by decide +kernel
theorem dX11_counts_29 : decode cX11_counts 29 = .ok (.astore 4, 2) := by decide +kernel
theorem dX11_counts_31 : decode cX11_counts 31 = .ok (.iload_n 2, 1) := by decide +kernel
theorem dX11_counts_32 : decode cX11_counts 32 = .ok (.iconst (-1), 1) := by decide +kernel
theorem dX11_counts_33 : decode cX11_counts 33 = .ok (.if_icmp .ne 10, 3) := by decide +kernel
theorem dX11_counts_36 : decode cX11_counts 36 = .ok (.aload 4, 2) := by decide +kernel
theorem dX11_counts_38 : decode cX11_counts 38 = .ok (.iload_n 3, 1) := by decide +kernel
theorem dX11_counts_39 : decode cX11_counts 39 = .ok (.invokevirtual 191, 3) := by decide +kernel
theorem dX11_counts_42 : decode cX11_counts 42 = .ok (.ireturn, 1) := by decide +kernel
theorem dX11_counts_43 : decode cX11_counts 43 = .ok (.aload_n 0, 1) := by decide +kernel
theorem dX11_counts_44 : decode cX11_counts 44 = .ok (.iload_n 1, 1) := by decide +kernel
theorem dX11_counts_45 : decode cX11_counts 45 = .ok (.iload_n 2, 1) := by decide +kernel
theorem dX11_counts_46 : decode cX11_counts 46 = .ok (.invokevirtual 136, 3) := by decide +kernel
theorem dX11_counts_49 : decode cX11_counts 49 = .ok (.ifCond .eq 13, 3) := by decide +kernel
theorem dX11_counts_52 : decode cX11_counts 52 = .ok (.aload 4, 2) := by decide +kernel
theorem dX11_counts_54 : decode cX11_counts 54 = .ok (.iload_n 2, 1) := by decide +kernel
theorem dX11_counts_55 : decode cX11_counts 55 = .ok (.iload_n 3, 1) := by decide +kernel
theorem dX11_counts_56 : decode cX11_counts 56 = .ok (.invokevirtual 194, 3) := by decide +kernel
theorem dX11_counts_59 : decode cX11_counts 59 = .ok (.goto 4, 3) := by decide +kernel
theorem dX11_counts_62 : decode cX11_counts 62 = .ok (.iconst (-1), 1) := by decide +kernel
theorem dX11_counts_63 : decode cX11_counts 63 = .ok (.ireturn, 1) := by decide +kernel
theorem dX11_sight_0 : decode cX11_sight 0 = .ok (.aload_n 0, 1) := by decide +kernel
theorem dX11_sight_1 : decode cX11_sight 1 = .ok (.iconst 2, 1) := by decide +kernel
theorem dX11_sight_2 : decode cX11_sight 2 = .ok (.iload_n 1, 1) := by decide +kernel
theorem dX11_sight_3 : decode cX11_sight 3 = .ok (.invokevirtual 87, 3) := by decide +kernel
theorem dX11_sight_6 : decode cX11_sight 6 = .ok (.ifCond .eq 20, 3) := by decide +kernel
theorem dX11_sight_9 : decode cX11_sight 9 = .ok (.aload_n 0, 1) := by decide +kernel
theorem dX11_sight_10 : decode cX11_sight 10 = .ok (.getfield 10, 3) := by decide +kernel
theorem dX11_sight_13 : decode cX11_sight 13 = .ok (.getfield 197, 3) := by decide +kernel
theorem dX11_sight_16 : decode cX11_sight 16 = .ok (.iload_n 1, 1) := by decide +kernel
theorem dX11_sight_17 : decode cX11_sight 17 = .ok (.aaload, 1) := by decide +kernel
theorem dX11_sight_18 : decode cX11_sight 18 = .ok (.iload_n 2, 1) := by decide +kernel
theorem dX11_sight_19 : decode cX11_sight 19 = .ok (.iload_n 3, 1) := by decide +kernel
theorem dX11_sight_20 : decode cX11_sight 20 = .ok (.invokevirtual 125, 3) := by decide +kernel
theorem dX11_sight_23 : decode cX11_sight 23 = .ok (.goto 5, 3) := by decide +kernel
theorem dX11_sight_26 : decode cX11_sight 26 = .ok (.bipush (-2), 2) := by decide +kernel
theorem dX11_sight_28 : decode cX11_sight 28 = .ok (.ireturn, 1) := by decide +kernel
theorem dX11_could_0 : decode cX11_could 0 = .ok (.iload_n 3, 1) := by decide +kernel
theorem dX11_could_1 : decode cX11_could 1 = .ok (.invokestatic 139, 3) := by decide +kernel
theorem dX11_could_4 : decode cX11_could 4 = .ok (.ifCond .ne 14, 3) := by decide +kernel
theorem dX11_could_7 : decode cX11_could 7 = .ok (.iload_n 3, 1) := by decide +kernel
theorem dX11_could_8 : decode cX11_could 8 = .ok (.iconst (-1), 1) := by decide +kernel
theorem dX11_could_9 : decode cX11_could 9 = .ok (.if_icmp .eq 9, 3) := by decide +kernel
theorem dX11_could_12 : decode cX11_could 12 = .ok (.iload_n 3, 1) := by decide +kernel
theorem dX11_could_13 : decode cX11_could 13 = .ok (.bipush (-2), 2) := by decide +kernel
theorem dX11_could_15 : decode cX11_could 15 = .ok (.if_icmp .ne 7, 3) := by decide +kernel
theorem dX11_could_18 : decode cX11_could 18 = .ok (.iconst 1, 1) := by decide +kernel
theorem dX11_could_19 : decode cX11_could 19 = .ok (.goto 4, 3) := by decide +kernel
theorem dX11_could_22 : decode cX11_could 22 = .ok (.iconst 0, 1) := by decide +kernel
theorem dX11_could_23 : decode cX11_could 23 = .ok (.istore 4, 2) := by decide +kernel
theorem dX11_could_25 : decode cX11_could 25 = .ok (.iload 4, 2) := by decide +kernel
theorem dX11_could_27 : decode cX11_could 27 = .ok (.ifCond .eq 12, 3) := by decide +kernel
theorem dX11_could_30 : decode cX11_could 30 = .ok (.aload_n 0, 1) := by decide +kernel
theorem dX11_could_31 : decode cX11_could 31 = .ok (.iload_n 1, 1) := by decide +kernel
theorem dX11_could_32 : decode cX11_could 32 = .ok (.iload_n 2, 1) := by decide +kernel
theorem dX11_could_33 : decode cX11_could 33 = .ok (.invokevirtual 200, 3) := by decide +kernel
theorem dX11_could_36 : decode cX11_could 36 = .ok (.ifCond .ne 5, 3) := by decide +kernel
theorem dX11_could_39 : decode cX11_could 39 = .ok (.iconst (-1), 1) := by decide +kernel
theorem dX11_could_40 : decode cX11_could 40 = .ok (.ireturn, 1) := by decide +kernel
theorem dX11_could_41 : decode cX11_could 41 = .ok (.iload_n 3, 1) := by decide +kernel
theorem dX11_could_42 : decode cX11_could 42 = .ok (.bipush (-2), 2) := by decide +kernel
theorem dX11_could_44 : decode cX11_could 44 = .ok (.if_icmp .ne 11, 3) := by decide +kernel
theorem dX11_could_47 : decode cX11_could 47 = .ok (.aload_n 0, 1) := by decide +kernel
theorem dX11_could_48 : decode cX11_could 48 = .ok (.getfield 65, 3) := by decide +kernel
theorem dX11_could_51 : decode cX11_could 51 = .ok (.invokevirtual 203, 3) := by decide +kernel
theorem dX11_could_54 : decode cX11_could 54 = .ok (.ireturn, 1) := by decide +kernel
theorem dX11_could_55 : decode cX11_could 55 = .ok (.aload_n 0, 1) := by decide +kernel
theorem dX11_could_56 : decode cX11_could 56 = .ok (.getfield 65, 3) := by decide +kernel
theorem dX11_could_59 : decode cX11_could 59 = .ok (.getfield 207, 3) := by decide +kernel
theorem dX11_could_62 : decode cX11_could 62 = .ok (.iload_n 3, 1) := by decide +kernel
theorem dX11_could_63 : decode cX11_could 63 = .ok (.iconst (-1), 1) := by decide +kernel
theorem dX11_could_64 : decode cX11_could 64 = .ok (.if_icmp .ne 7, 3) := by decide +kernel
theorem dX11_could_67 : decode cX11_could 67 = .ok (.iconst 0, 1) := by decide +kernel
theorem dX11_could_68 : decode cX11_could 68 = .ok (.goto 4, 3) := by decide +kernel
theorem dX11_could_71 : decode cX11_could 71 = .ok (.iload_n 3, 1) := by decide +kernel
theorem dX11_could_72 : decode cX11_could 72 = .ok (.iaload, 1) := by decide +kernel
theorem dX11_could_73 : decode cX11_could 73 = .ok (.ireturn, 1) := by decide +kernel
theorem dX11_drawn_0 : decode cX11_drawn 0 = .ok (.aload_n 0, 1) := by decide +kernel
theorem dX11_drawn_1 : decode cX11_drawn 1 = .ok (.iconst 0, 1) := by decide +kernel
theorem dX11_drawn_2 : decode cX11_drawn 2 = .ok (.iload_n 1, 1) := by decide +kernel
theorem dX11_drawn_3 : decode cX11_drawn 3 = .ok (.invokevirtual 87, 3) := by decide +kernel
theorem dX11_drawn_6 : decode cX11_drawn 6 = .ok (.ifCond .eq 13, 3) := by decide +kernel
theorem dX11_drawn_9 : decode cX11_drawn 9 = .ok (.iload_n 3, 1) := by decide +kernel
theorem dX11_drawn_10 : decode cX11_drawn 10 = .ok (.ifCond .lt 9, 3) := by decide +kernel
theorem dX11_drawn_13 : decode cX11_drawn 13 = .ok (.iload_n 3, 1) := by decide +kernel
theorem dX11_drawn_14 : decode cX11_drawn 14 = .ok (.bipush 60, 2) := by decide +kernel
theorem dX11_drawn_16 : decode cX11_drawn 16 = .ok (.if_icmp .le 6, 3) := by decide +kernel
theorem dX11_drawn_19 : decode cX11_drawn 19 = .ok (.bipush (-2), 2) := by decide +kernel
theorem dX11_drawn_21 : decode cX11_drawn 21 = .ok (.ireturn, 1) := by decide +kernel
theorem dX11_drawn_22 : decode cX11_drawn 22 = .ok (.aload_n 0, 1) := by decide +kernel
theorem dX11_drawn_23 : decode cX11_drawn 23 = .ok (.getfield 10, 3) := by decide +kernel
theorem dX11_drawn_26 : decode cX11_drawn 26 = .ok (.getfield 111, 3) := by decide +kernel
theorem dX11_drawn_29 : decode cX11_drawn 29 = .ok (.iload_n 1, 1) := by decide +kernel
theorem dX11_drawn_30 : decode cX11_drawn 30 = .ok (.aaload, 1) := by decide +kernel
theorem dX11_drawn_31 : decode cX11_drawn 31 = .ok (.astore 5, 2) := by decide +kernel
theorem dX11_drawn_33 : decode cX11_drawn 33 = .ok (.aload_n 0, 1) := by decide +kernel
theorem dX11_drawn_34 : decode cX11_drawn 34 = .ok (.getfield 30, 3) := by decide +kernel
theorem dX11_drawn_37 : decode cX11_drawn 37 = .ok (.aload 5, 2) := by decide +kernel
theorem dX11_drawn_39 : decode cX11_drawn 39 = .ok (.iload_n 2, 1) := by decide +kernel
theorem dX11_drawn_40 : decode cX11_drawn 40 = .ok (.iload_n 3, 1) := by decide +kernel
theorem dX11_drawn_41 : decode cX11_drawn 41 = .ok (.invokevirtual 210, 3) := by decide +kernel
theorem dX11_drawn_44 : decode cX11_drawn 44 = .ok (.aload_n 0, 1) := by decide +kernel
theorem dX11_drawn_45 : decode cX11_drawn 45 = .ok (.getfield 30, 3) := by decide +kernel
theorem dX11_drawn_48 : decode cX11_drawn 48 = .ok (.aload 5, 2) := by decide +kernel
theorem dX11_drawn_50 : decode cX11_drawn 50 = .ok (.iload 4, 2) := by decide +kernel
theorem dX11_drawn_52 : decode cX11_drawn 52 = .ok (.invokevirtual 133, 3) := by decide +kernel
theorem dX11_drawn_55 : decode cX11_drawn 55 = .ok (.ireturn, 1) := by decide +kernel
theorem dX11_lands_0 : decode cX11_lands 0 = .ok (.aload_n 0, 1) := by decide +kernel
theorem dX11_lands_1 : decode cX11_lands 1 = .ok (.iconst 0, 1) := by decide +kernel
theorem dX11_lands_2 : decode cX11_lands 2 = .ok (.iload_n 1, 1) := by decide +kernel
theorem dX11_lands_3 : decode cX11_lands 3 = .ok (.invokevirtual 87, 3) := by decide +kernel
theorem dX11_lands_6 : decode cX11_lands 6 = .ok (.ifCond .ne 5, 3) := by decide +kernel
theorem dX11_lands_9 : decode cX11_lands 9 = .ok (.iconst (-1), 1) := by decide +kernel
theorem dX11_lands_10 : decode cX11_lands 10 = .ok (.ireturn, 1) := by decide +kernel
theorem dX11_lands_11 : decode cX11_lands 11 = .ok (.aload_n 0, 1) := by decide +kernel
theorem dX11_lands_12 : decode cX11_lands 12 = .ok (.getfield 10, 3) := by decide +kernel
theorem dX11_lands_15 : decode cX11_lands 15 = .ok (.getfield 111, 3) := by decide +kernel
theorem dX11_lands_18 : decode cX11_lands 18 = .ok (.iload_n 1, 1) := by decide +kernel
theorem dX11_lands_19 : decode cX11_lands 19 = .ok (.aaload, 1) := by decide +kernel
theorem dX11_lands_20 : decode cX11_lands 20 = .ok (.astore_n 3, 1) := by decide +kernel
theorem dX11_lands_21 : decode cX11_lands 21 = .ok (.iload_n 2, 1) := by decide +kernel
theorem dX11_lands_22 : decode cX11_lands 22 = .ok (.ifCond .ne 12, 3) := by decide +kernel
theorem dX11_lands_25 : decode cX11_lands 25 = .ok (.aload_n 0, 1) := by decide +kernel
theorem dX11_lands_26 : decode cX11_lands 26 = .ok (.getfield 37, 3) := by decide +kernel
theorem dX11_lands_29 : decode cX11_lands 29 = .ok (.aload_n 3, 1) := by decide +kernel
theorem dX11_lands_30 : decode cX11_lands 30 = .ok (.invokevirtual 214, 3) := by decide +kernel
theorem dX11_lands_33 : decode cX11_lands 33 = .ok (.ireturn, 1) := by decide +kernel
theorem dX11_lands_34 : decode cX11_lands 34 = .ok (.iload_n 2, 1) := by decide +kernel
theorem dX11_lands_35 : decode cX11_lands 35 = .ok (.iconst 1, 1) := by decide +kernel
theorem dX11_lands_36 : decode cX11_lands 36 = .ok (.if_icmp .eq 8, 3) := by decide +kernel
theorem dX11_lands_39 : decode cX11_lands 39 = .ok (.iload_n 2, 1) := by decide +kernel
theorem dX11_lands_40 : decode cX11_lands 40 = .ok (.iconst 2, 1) := by decide +kernel
theorem dX11_lands_41 : decode cX11_lands 41 = .ok (.if_icmp .ne 18, 3) := by decide +kernel
theorem dX11_lands_44 : decode cX11_lands 44 = .ok (.aload_n 3, 1) := by decide +kernel
theorem dX11_lands_45 : decode cX11_lands 45 = .ok (.iload_n 2, 1) := by decide +kernel
theorem dX11_lands_46 : decode cX11_lands 46 = .ok (.iconst 2, 1) := by decide +kernel
theorem dX11_lands_47 : decode cX11_lands 47 = .ok (.if_icmp .ne 7, 3) := by decide +kernel
theorem dX11_lands_50 : decode cX11_lands 50 = .ok (.iconst 1, 1) := by decide +kernel
theorem dX11_lands_51 : decode cX11_lands 51 = .ok (.goto 4, 3) := by decide +kernel
theorem dX11_lands_54 : decode cX11_lands 54 = .ok (.iconst 0, 1) := by decide +kernel
theorem dX11_lands_55 : decode cX11_lands 55 = .ok (.invokevirtual 218, 3) := by decide +kernel
theorem dX11_lands_58 : decode cX11_lands 58 = .ok (.ireturn, 1) := by decide +kernel
theorem dX11_lands_59 : decode cX11_lands 59 = .ok (.iload_n 2, 1) := by decide +kernel
theorem dX11_lands_60 : decode cX11_lands 60 = .ok (.bipush 10, 2) := by decide +kernel
theorem dX11_lands_62 : decode cX11_lands 62 = .ok (.if_icmp .lt 26, 3) := by decide +kernel
theorem dX11_lands_65 : decode cX11_lands 65 = .ok (.iload_n 2, 1) := by decide +kernel
theorem dX11_lands_66 : decode cX11_lands 66 = .ok (.bipush 10, 2) := by decide +kernel
theorem dX11_lands_68 : decode cX11_lands 68 = .ok (.aload_n 3, 1) := by decide +kernel
theorem dX11_lands_69 : decode cX11_lands 69 = .ok (.getfield 166, 3) := by decide +kernel
theorem dX11_lands_72 : decode cX11_lands 72 = .ok (.iadd, 1) := by decide +kernel
theorem dX11_lands_73 : decode cX11_lands 73 = .ok (.if_icmp .ge 15, 3) := by decide +kernel
theorem dX11_lands_76 : decode cX11_lands 76 = .ok (.aload_n 3, 1) := by decide +kernel
theorem dX11_lands_77 : decode cX11_lands 77 = .ok (.iload_n 2, 1) := by decide +kernel
theorem dX11_lands_78 : decode cX11_lands 78 = .ok (.bipush 10, 2) := by decide +kernel
theorem dX11_lands_80 : decode cX11_lands 80 = .ok (.isub, 1) := by decide +kernel
theorem dX11_lands_81 : decode cX11_lands 81 = .ok (.iconst (-1), 1) := by decide +kernel
theorem dX11_lands_82 : decode cX11_lands 82 = .ok (.invokevirtual 222, 3) := by decide +kernel
theorem dX11_lands_85 : decode cX11_lands 85 = .ok (.goto 4, 3) := by decide +kernel
theorem dX11_lands_88 : decode cX11_lands 88 = .ok (.iconst (-1), 1) := by decide +kernel
theorem dX11_lands_89 : decode cX11_lands 89 = .ok (.ireturn, 1) := by decide +kernel
theorem dX11_trains_0 : decode cX11_trains 0 = .ok (.aload_n 0, 1) := by decide +kernel
theorem dX11_trains_1 : decode cX11_trains 1 = .ok (.iconst 0, 1) := by decide +kernel
theorem dX11_trains_2 : decode cX11_trains 2 = .ok (.iload_n 1, 1) := by decide +kernel
theorem dX11_trains_3 : decode cX11_trains 3 = .ok (.invokevirtual 87, 3) := by decide +kernel
theorem dX11_trains_6 : decode cX11_trains 6 = .ok (.ifCond .ne 5, 3) := by decide +kernel
theorem dX11_trains_9 : decode cX11_trains 9 = .ok (.iconst (-1), 1) := by decide +kernel
theorem dX11_trains_10 : decode cX11_trains 10 = .ok (.ireturn, 1) := by decide +kernel
theorem dX11_trains_11 : decode cX11_trains 11 = .ok (.aload_n 0, 1) := by decide +kernel
theorem dX11_trains_12 : decode cX11_trains 12 = .ok (.getfield 10, 3) := by decide +kernel
theorem dX11_trains_15 : decode cX11_trains 15 = .ok (.getfield 111, 3) := by decide +kernel
theorem dX11_trains_18 : decode cX11_trains 18 = .ok (.iload_n 1, 1) := by decide +kernel
theorem dX11_trains_19 : decode cX11_trains 19 = .ok (.aaload, 1) := by decide +kernel
theorem dX11_trains_20 : decode cX11_trains 20 = .ok (.astore_n 3, 1) := by decide +kernel
theorem dX11_trains_21 : decode cX11_trains 21 = .ok (.iload_n 2, 1) := by decide +kernel
theorem dX11_trains_22 : decode cX11_trains 22 = .ok (.ifCond .eq 8, 3) := by decide +kernel
theorem dX11_trains_25 : decode cX11_trains 25 = .ok (.iload_n 2, 1) := by decide +kernel
theorem dX11_trains_26 : decode cX11_trains 26 = .ok (.iconst 1, 1) := by decide +kernel
theorem dX11_trains_27 : decode cX11_trains 27 = .ok (.if_icmp .ne 22, 3) := by decide +kernel
theorem dX11_trains_30 : decode cX11_trains 30 = .ok (.aload_n 0, 1) := by decide +kernel
theorem dX11_trains_31 : decode cX11_trains 31 = .ok (.getfield 37, 3) := by decide +kernel
theorem dX11_trains_34 : decode cX11_trains 34 = .ok (.aload_n 3, 1) := by decide +kernel
theorem dX11_trains_35 : decode cX11_trains 35 = .ok (.iload_n 2, 1) := by decide +kernel
theorem dX11_trains_36 : decode cX11_trains 36 = .ok (.iconst 1, 1) := by decide +kernel
theorem dX11_trains_37 : decode cX11_trains 37 = .ok (.if_icmp .ne 7, 3) := by decide +kernel
theorem dX11_trains_40 : decode cX11_trains 40 = .ok (.iconst 1, 1) := by decide +kernel
theorem dX11_trains_41 : decode cX11_trains 41 = .ok (.goto 4, 3) := by decide +kernel
theorem dX11_trains_44 : decode cX11_trains 44 = .ok (.iconst 0, 1) := by decide +kernel
theorem dX11_trains_45 : decode cX11_trains 45 = .ok (.invokevirtual 225, 3) := by decide +kernel
theorem dX11_trains_48 : decode cX11_trains 48 = .ok (.ireturn, 1) := by decide +kernel
theorem dX11_trains_49 : decode cX11_trains 49 = .ok (.iload_n 2, 1) := by decide +kernel
theorem dX11_trains_50 : decode cX11_trains 50 = .ok (.iconst 2, 1) := by decide +kernel
theorem dX11_trains_51 : decode cX11_trains 51 = .ok (.if_icmp .ne 14, 3) := by decide +kernel
theorem dX11_trains_54 : decode cX11_trains 54 = .ok (.aload_n 0, 1) := by decide +kernel
theorem dX11_trains_55 : decode cX11_trains 55 = .ok (.getfield 37, 3) := by decide +kernel
theorem dX11_trains_58 : decode cX11_trains 58 = .ok (.aload_n 3, 1) := by decide +kernel
theorem dX11_trains_59 : decode cX11_trains 59 = .ok (.invokevirtual 229, 3) := by decide +kernel
theorem dX11_trains_62 : decode cX11_trains 62 = .ok (.goto 4, 3) := by decide +kernel
theorem dX11_trains_65 : decode cX11_trains 65 = .ok (.iconst (-1), 1) := by decide +kernel
theorem dX11_trains_66 : decode cX11_trains 66 = .ok (.ireturn, 1) := by decide +kernel
theorem dX11_latest_0 : decode cX11_latest 0 = .ok (.aload_n 0, 1) := by decide +kernel
theorem dX11_latest_1 : decode cX11_latest 1 = .ok (.iload_n 1, 1) := by decide +kernel
theorem dX11_latest_2 : decode cX11_latest 2 = .ok (.iload_n 2, 1) := by decide +kernel
theorem dX11_latest_3 : decode cX11_latest 3 = .ok (.invokevirtual 136, 3) := by decide +kernel
theorem dX11_latest_6 : decode cX11_latest 6 = .ok (.ifCond .eq 20, 3) := by decide +kernel
theorem dX11_latest_9 : decode cX11_latest 9 = .ok (.aload_n 0, 1) := by decide +kernel
theorem dX11_latest_10 : decode cX11_latest 10 = .ok (.iload_n 1, 1) := by decide +kernel
theorem dX11_latest_11 : decode cX11_latest 11 = .ok (.iload_n 3, 1) := by decide +kernel
theorem dX11_latest_12 : decode cX11_latest 12 = .ok (.invokevirtual 136, 3) := by decide +kernel
theorem dX11_latest_15 : decode cX11_latest 15 = .ok (.ifCond .eq 11, 3) := by decide +kernel
theorem dX11_latest_18 : decode cX11_latest 18 = .ok (.iload 4, 2) := by decide +kernel
theorem dX11_latest_20 : decode cX11_latest 20 = .ok (.invokestatic 139, 3) := by decide +kernel
theorem dX11_latest_23 : decode cX11_latest 23 = .ok (.ifCond .ne 5, 3) := by decide +kernel
theorem dX11_latest_26 : decode cX11_latest 26 = .ok (.iconst (-1), 1) := by decide +kernel
theorem dX11_latest_27 : decode cX11_latest 27 = .ok (.ireturn, 1) := by decide +kernel
theorem dX11_latest_28 : decode cX11_latest 28 = .ok (.aload_n 0, 1) := by decide +kernel
theorem dX11_latest_29 : decode cX11_latest 29 = .ok (.getfield 37, 3) := by decide +kernel
theorem dX11_latest_32 : decode cX11_latest 32 = .ok (.aload_n 0, 1) := by decide +kernel
theorem dX11_latest_33 : decode cX11_latest 33 = .ok (.getfield 10, 3) := by decide +kernel
theorem dX11_latest_36 : decode cX11_latest 36 = .ok (.getfield 111, 3) := by decide +kernel
theorem dX11_latest_39 : decode cX11_latest 39 = .ok (.iload_n 1, 1) := by decide +kernel
theorem dX11_latest_40 : decode cX11_latest 40 = .ok (.aaload, 1) := by decide +kernel
theorem dX11_latest_41 : decode cX11_latest 41 = .ok (.iload_n 2, 1) := by decide +kernel
theorem dX11_latest_42 : decode cX11_latest 42 = .ok (.iload_n 3, 1) := by decide +kernel
theorem dX11_latest_43 : decode cX11_latest 43 = .ok (.iload 4, 2) := by decide +kernel
theorem dX11_latest_45 : decode cX11_latest 45 = .ok (.invokevirtual 232, 3) := by decide +kernel
theorem dX11_latest_48 : decode cX11_latest 48 = .ok (.ireturn, 1) := by decide +kernel
theorem dX11_board_0 : decode cX11_board 0 = .ok (.aload_n 0, 1) := by decide +kernel
theorem dX11_board_1 : decode cX11_board 1 = .ok (.iload_n 1, 1) := by decide +kernel
theorem dX11_board_2 : decode cX11_board 2 = .ok (.iload_n 2, 1) := by decide +kernel
theorem dX11_board_3 : decode cX11_board 3 = .ok (.invokevirtual 136, 3) := by decide +kernel
theorem dX11_board_6 : decode cX11_board 6 = .ok (.ifCond .eq 10, 3) := by decide +kernel
theorem dX11_board_9 : decode cX11_board 9 = .ok (.iload_n 3, 1) := by decide +kernel
theorem dX11_board_10 : decode cX11_board 10 = .ok (.invokestatic 139, 3) := by decide +kernel
theorem dX11_board_13 : decode cX11_board 13 = .ok (.ifCond .ne 5, 3) := by decide +kernel
theorem dX11_board_16 : decode cX11_board 16 = .ok (.iconst (-1), 1) := by decide +kernel
theorem dX11_board_17 : decode cX11_board 17 = .ok (.ireturn, 1) := by decide +kernel
theorem dX11_board_18 : decode cX11_board 18 = .ok (.aload_n 0, 1) := by decide +kernel
theorem dX11_board_19 : decode cX11_board 19 = .ok (.getfield 10, 3) := by decide +kernel
theorem dX11_board_22 : decode cX11_board 22 = .ok (.getfield 111, 3) := by decide +kernel
theorem dX11_board_25 : decode cX11_board 25 = .ok (.iload_n 1, 1) := by decide +kernel
theorem dX11_board_26 : decode cX11_board 26 = .ok (.aaload, 1) := by decide +kernel
theorem dX11_board_27 : decode cX11_board 27 = .ok (.iload_n 2, 1) := by decide +kernel
theorem dX11_board_28 : decode cX11_board 28 = .ok (.iload_n 3, 1) := by decide +kernel
theorem dX11_board_29 : decode cX11_board 29 = .ok (.iload 4, 2) := by decide +kernel
theorem dX11_board_31 : decode cX11_board 31 = .ok (.invokevirtual 235, 3) := by decide +kernel
theorem dX11_board_34 : decode cX11_board 34 = .ok (.ireturn, 1) := by decide +kernel
theorem dX11_gathered_0 : decode cX11_gathered 0 = .ok (.aload_n 0, 1) := by decide +kernel
theorem dX11_gathered_1 : decode cX11_gathered 1 = .ok (.iconst 0, 1) := by decide +kernel
theorem dX11_gathered_2 : decode cX11_gathered 2 = .ok (.iload_n 1, 1) := by decide +kernel
theorem dX11_gathered_3 : decode cX11_gathered 3 = .ok (.invokevirtual 87, 3) := by decide +kernel
theorem dX11_gathered_6 : decode cX11_gathered 6 = .ok (.ifCond .eq 18, 3) := by decide +kernel
theorem dX11_gathered_9 : decode cX11_gathered 9 = .ok (.aload_n 0, 1) := by decide +kernel
theorem dX11_gathered_10 : decode cX11_gathered 10 = .ok (.getfield 10, 3) := by decide +kernel
theorem dX11_gathered_13 : decode cX11_gathered 13 = .ok (.getfield 111, 3) := by decide +kernel
theorem dX11_gathered_16 : decode cX11_gathered 16 = .ok (.iload_n 1, 1) := by decide +kernel
theorem dX11_gathered_17 : decode cX11_gathered 17 = .ok (.aaload, 1) := by decide +kernel
theorem dX11_gathered_18 : decode cX11_gathered 18 = .ok (.getfield 239, 3) := by decide +kernel
theorem dX11_gathered_21 : decode cX11_gathered 21 = .ok (.ifCond .ne 5, 3) := by decide +kernel
theorem dX11_gathered_24 : decode cX11_gathered 24 = .ok (.iconst (-1), 1) := by decide +kernel
theorem dX11_gathered_25 : decode cX11_gathered 25 = .ok (.ireturn, 1) := by decide +kernel
theorem dX11_gathered_26 : decode cX11_gathered 26 = .ok (.aload_n 0, 1) := by decide +kernel
theorem dX11_gathered_27 : decode cX11_gathered 27 = .ok (.getfield 10, 3) := by decide +kernel
theorem dX11_gathered_30 : decode cX11_gathered 30 = .ok (.getfield 111, 3) := by decide +kernel
theorem dX11_gathered_33 : decode cX11_gathered 33 = .ok (.iload_n 1, 1) := by decide +kernel
theorem dX11_gathered_34 : decode cX11_gathered 34 = .ok (.aaload, 1) := by decide +kernel
theorem dX11_gathered_35 : decode cX11_gathered 35 = .ok (.astore_n 3, 1) := by decide +kernel
theorem dX11_gathered_36 : decode cX11_gathered 36 = .ok (.aload_n 0, 1) := by decide +kernel
theorem dX11_gathered_37 : decode cX11_gathered 37 = .ok (.getfield 37, 3) := by decide +kernel
theorem dX11_gathered_40 : decode cX11_gathered 40 = .ok (.aload_n 3, 1) := by decide +kernel
theorem dX11_gathered_41 : decode cX11_gathered 41 = .ok (.iconst 1, 1) := by decide +kernel
theorem dX11_gathered_42 : decode cX11_gathered 42 = .ok (.aload_n 3, 1) := by decide +kernel
theorem dX11_gathered_43 : decode cX11_gathered 43 = .ok (.getfield 239, 3) := by decide +kernel
theorem dX11_gathered_46 : decode cX11_gathered 46 = .ok (.ishl, 1) := by decide +kernel
theorem dX11_gathered_47 : decode cX11_gathered 47 = .ok (.iconst 1, 1) := by decide +kernel
theorem dX11_gathered_48 : decode cX11_gathered 48 = .ok (.isub, 1) := by decide +kernel
theorem dX11_gathered_49 : decode cX11_gathered 49 = .ok (.iload_n 2, 1) := by decide +kernel
theorem dX11_gathered_50 : decode cX11_gathered 50 = .ok (.invokevirtual 162, 3) := by decide +kernel
theorem dX11_gathered_53 : decode cX11_gathered 53 = .ok (.ireturn, 1) := by decide +kernel
theorem dX11_orders_0 : decode cX11_orders 0 = .ok (.aload_n 0, 1) := by decide +kernel
theorem dX11_orders_1 : decode cX11_orders 1 = .ok (.iload_n 1, 1) := by decide +kernel
theorem dX11_orders_2 : decode cX11_orders 2 = .ok (.iload_n 2, 1) := by decide +kernel
theorem dX11_orders_3 : decode cX11_orders 3 = .ok (.invokevirtual 242, 3) := by decide +kernel
theorem dX11_orders_6 : decode cX11_orders 6 = .ok (.ifCond .ne 5, 3) := by decide +kernel
theorem dX11_orders_9 : decode cX11_orders 9 = .ok (.iconst (-1), 1) := by decide +kernel
theorem dX11_orders_10 : decode cX11_orders 10 = .ok (.ireturn, 1) := by decide +kernel
theorem dX11_orders_11 : decode cX11_orders 11 = .ok (.aload_n 0, 1) := by decide +kernel
theorem dX11_orders_12 : decode cX11_orders 12 = .ok (.getfield 10, 3) := by decide +kernel
theorem dX11_orders_15 : decode cX11_orders 15 = .ok (.getfield 111, 3) := by decide +kernel
theorem dX11_orders_18 : decode cX11_orders 18 = .ok (.iload_n 1, 1) := by decide +kernel
theorem dX11_orders_19 : decode cX11_orders 19 = .ok (.aaload, 1) := by decide +kernel
theorem dX11_orders_20 : decode cX11_orders 20 = .ok (.astore 4, 2) := by decide +kernel
theorem dX11_orders_22 : decode cX11_orders 22 = .ok (.iload_n 3, 1) := by decide +kernel
theorem dX11_orders_23 : decode cX11_orders 23 = .ok (.iconst (-1), 1) := by decide +kernel
theorem dX11_orders_24 : decode cX11_orders 24 = .ok (.if_icmp .ne 16, 3) := by decide +kernel
theorem dX11_orders_27 : decode cX11_orders 27 = .ok (.aload_n 0, 1) := by decide +kernel
theorem dX11_orders_28 : decode cX11_orders 28 = .ok (.getfield 51, 3) := by decide +kernel
theorem dX11_orders_31 : decode cX11_orders 31 = .ok (.aload 4, 2) := by decide +kernel
theorem dX11_orders_33 : decode cX11_orders 33 = .ok (.iload_n 2, 1) := by decide +kernel
theorem dX11_orders_34 : decode cX11_orders 34 = .ok (.invokevirtual 245, 3) := by decide +kernel
theorem dX11_orders_37 : decode cX11_orders 37 = .ok (.goto 14, 3) := by decide +kernel
theorem dX11_orders_40 : decode cX11_orders 40 = .ok (.aload_n 0, 1) := by decide +kernel
theorem dX11_orders_41 : decode cX11_orders 41 = .ok (.getfield 51, 3) := by decide +kernel
theorem dX11_orders_44 : decode cX11_orders 44 = .ok (.aload 4, 2) := by decide +kernel
theorem dX11_orders_46 : decode cX11_orders 46 = .ok (.iload_n 2, 1) := by decide +kernel
theorem dX11_orders_47 : decode cX11_orders 47 = .ok (.iload_n 3, 1) := by decide +kernel
theorem dX11_orders_48 : decode cX11_orders 48 = .ok (.invokevirtual 248, 3) := by decide +kernel
theorem dX11_orders_51 : decode cX11_orders 51 = .ok (.ireturn, 1) := by decide +kernel
theorem dX11_lacks_0 : decode cX11_lacks 0 = .ok (.aload_n 0, 1) := by decide +kernel
theorem dX11_lacks_1 : decode cX11_lacks 1 = .ok (.iload_n 1, 1) := by decide +kernel
theorem dX11_lacks_2 : decode cX11_lacks 2 = .ok (.iload_n 2, 1) := by decide +kernel
theorem dX11_lacks_3 : decode cX11_lacks 3 = .ok (.invokevirtual 242, 3) := by decide +kernel
theorem dX11_lacks_6 : decode cX11_lacks 6 = .ok (.ifCond .ne 5, 3) := by decide +kernel
theorem dX11_lacks_9 : decode cX11_lacks 9 = .ok (.iconst (-1), 1) := by decide +kernel
theorem dX11_lacks_10 : decode cX11_lacks 10 = .ok (.ireturn, 1) := by decide +kernel
theorem dX11_lacks_11 : decode cX11_lacks 11 = .ok (.aload_n 0, 1) := by decide +kernel
theorem dX11_lacks_12 : decode cX11_lacks 12 = .ok (.getfield 10, 3) := by decide +kernel
theorem dX11_lacks_15 : decode cX11_lacks 15 = .ok (.getfield 111, 3) := by decide +kernel
theorem dX11_lacks_18 : decode cX11_lacks 18 = .ok (.iload_n 1, 1) := by decide +kernel
theorem dX11_lacks_19 : decode cX11_lacks 19 = .ok (.aaload, 1) := by decide +kernel
theorem dX11_lacks_20 : decode cX11_lacks 20 = .ok (.astore 4, 2) := by decide +kernel
theorem dX11_lacks_22 : decode cX11_lacks 22 = .ok (.iload_n 3, 1) := by decide +kernel
theorem dX11_lacks_23 : decode cX11_lacks 23 = .ok (.ifCond .ne 14, 3) := by decide +kernel
theorem dX11_lacks_26 : decode cX11_lacks 26 = .ok (.aload_n 0, 1) := by decide +kernel
theorem dX11_lacks_27 : decode cX11_lacks 27 = .ok (.getfield 51, 3) := by decide +kernel
theorem dX11_lacks_30 : decode cX11_lacks 30 = .ok (.aload 4, 2) := by decide +kernel
theorem dX11_lacks_32 : decode cX11_lacks 32 = .ok (.iload_n 2, 1) := by decide +kernel
theorem dX11_lacks_33 : decode cX11_lacks 33 = .ok (.invokevirtual 252, 3) := by decide +kernel
theorem dX11_lacks_36 : decode cX11_lacks 36 = .ok (.ireturn, 1) := by decide +kernel
theorem dX11_lacks_37 : decode cX11_lacks 37 = .ok (.aload_n 0, 1) := by decide +kernel
theorem dX11_lacks_38 : decode cX11_lacks 38 = .ok (.getfield 51, 3) := by decide +kernel
theorem dX11_lacks_41 : decode cX11_lacks 41 = .ok (.aload 4, 2) := by decide +kernel
theorem dX11_lacks_43 : decode cX11_lacks 43 = .ok (.iload_n 2, 1) := by decide +kernel
theorem dX11_lacks_44 : decode cX11_lacks 44 = .ok (.aload 4, 2) := by decide +kernel
theorem dX11_lacks_46 : decode cX11_lacks 46 = .ok (.getfield 255, 3) := by decide +kernel
theorem dX11_lacks_49 : decode cX11_lacks 49 = .ok (.iload_n 2, 1) := by decide +kernel
theorem dX11_lacks_50 : decode cX11_lacks 50 = .ok (.iaload, 1) := by decide +kernel
theorem dX11_lacks_51 : decode cX11_lacks 51 = .ok (.invokevirtual 257, 3) := by decide +kernel
theorem dX11_lacks_54 : decode cX11_lacks 54 = .ok (.istore 5, 2) := by decide +kernel
theorem dX11_lacks_56 : decode cX11_lacks 56 = .ok (.iload 5, 2) := by decide +kernel
theorem dX11_lacks_58 : decode cX11_lacks 58 = .ok (.ldc 147, 2) := by decide +kernel
theorem dX11_lacks_60 : decode cX11_lacks 60 = .ok (.if_icmp .ne 7, 3) := by decide +kernel
theorem dX11_lacks_63 : decode cX11_lacks 63 = .ok (.iconst (-1), 1) := by decide +kernel
theorem dX11_lacks_64 : decode cX11_lacks 64 = .ok (.goto 5, 3) := by decide +kernel
theorem dX11_lacks_67 : decode cX11_lacks 67 = .ok (.iload 5, 2) := by decide +kernel
theorem dX11_lacks_69 : decode cX11_lacks 69 = .ok (.ireturn, 1) := by decide +kernel
theorem dX11_ledge_0 : decode cX11_ledge 0 = .ok (.aload_n 0, 1) := by decide +kernel
theorem dX11_ledge_1 : decode cX11_ledge 1 = .ok (.iload_n 1, 1) := by decide +kernel
theorem dX11_ledge_2 : decode cX11_ledge 2 = .ok (.iload_n 2, 1) := by decide +kernel
theorem dX11_ledge_3 : decode cX11_ledge 3 = .ok (.invokevirtual 242, 3) := by decide +kernel
theorem dX11_ledge_6 : decode cX11_ledge 6 = .ok (.ifCond .eq 24, 3) := by decide +kernel
theorem dX11_ledge_9 : decode cX11_ledge 9 = .ok (.aload_n 0, 1) := by decide +kernel
theorem dX11_ledge_10 : decode cX11_ledge 10 = .ok (.getfield 51, 3) := by decide +kernel
theorem dX11_ledge_13 : decode cX11_ledge 13 = .ok (.aload_n 0, 1) := by decide +kernel
theorem dX11_ledge_14 : decode cX11_ledge 14 = .ok (.getfield 10, 3) := by decide +kernel
theorem dX11_ledge_17 : decode cX11_ledge 17 = .ok (.getfield 111, 3) := by decide +kernel
theorem dX11_ledge_20 : decode cX11_ledge 20 = .ok (.iload_n 1, 1) := by decide +kernel
theorem dX11_ledge_21 : decode cX11_ledge 21 = .ok (.aaload, 1) := by decide +kernel
theorem dX11_ledge_22 : decode cX11_ledge 22 = .ok (.iload_n 2, 1) := by decide +kernel
theorem dX11_ledge_23 : decode cX11_ledge 23 = .ok (.iload_n 3, 1) := by decide +kernel
theorem dX11_ledge_24 : decode cX11_ledge 24 = .ok (.invokevirtual 260, 3) := by decide +kernel
theorem dX11_ledge_27 : decode cX11_ledge 27 = .ok (.goto 4, 3) := by decide +kernel
theorem dX11_ledge_30 : decode cX11_ledge 30 = .ok (.iconst (-1), 1) := by decide +kernel
theorem dX11_ledge_31 : decode cX11_ledge 31 = .ok (.ireturn, 1) := by decide +kernel
theorem dX11_busy_0 : decode cX11_busy 0 = .ok (.aload_n 0, 1) := by decide +kernel
theorem dX11_busy_1 : decode cX11_busy 1 = .ok (.iconst 0, 1) := by decide +kernel
theorem dX11_busy_2 : decode cX11_busy 2 = .ok (.iload_n 1, 1) := by decide +kernel
theorem dX11_busy_3 : decode cX11_busy 3 = .ok (.invokevirtual 87, 3) := by decide +kernel
theorem dX11_busy_6 : decode cX11_busy 6 = .ok (.ifCond .eq 19, 3) := by decide +kernel
theorem dX11_busy_9 : decode cX11_busy 9 = .ok (.aload_n 0, 1) := by decide +kernel
theorem dX11_busy_10 : decode cX11_busy 10 = .ok (.getfield 10, 3) := by decide +kernel
theorem dX11_busy_13 : decode cX11_busy 13 = .ok (.getfield 111, 3) := by decide +kernel
theorem dX11_busy_16 : decode cX11_busy 16 = .ok (.iload_n 1, 1) := by decide +kernel
theorem dX11_busy_17 : decode cX11_busy 17 = .ok (.aaload, 1) := by decide +kernel
theorem dX11_busy_18 : decode cX11_busy 18 = .ok (.iload_n 2, 1) := by decide +kernel
theorem dX11_busy_19 : decode cX11_busy 19 = .ok (.invokevirtual 263, 3) := by decide +kernel
theorem dX11_busy_22 : decode cX11_busy 22 = .ok (.goto 5, 3) := by decide +kernel
theorem dX11_busy_25 : decode cX11_busy 25 = .ok (.bipush (-2), 2) := by decide +kernel
theorem dX11_busy_27 : decode cX11_busy 27 = .ok (.ireturn, 1) := by decide +kernel
theorem dX11_certain_0 : decode cX11_certain 0 = .ok (.aload_n 0, 1) := by decide +kernel
theorem dX11_certain_1 : decode cX11_certain 1 = .ok (.iload_n 1, 1) := by decide +kernel
theorem dX11_certain_2 : decode cX11_certain 2 = .ok (.iload_n 2, 1) := by decide +kernel
theorem dX11_certain_3 : decode cX11_certain 3 = .ok (.invokevirtual 200, 3) := by decide +kernel
theorem dX11_certain_6 : decode cX11_certain 6 = .ok (.ifCond .eq 14, 3) := by decide +kernel
theorem dX11_certain_9 : decode cX11_certain 9 = .ok (.aload_n 0, 1) := by decide +kernel
theorem dX11_certain_10 : decode cX11_certain 10 = .ok (.getfield 65, 3) := by decide +kernel
theorem dX11_certain_13 : decode cX11_certain 13 = .ok (.iload_n 3, 1) := by decide +kernel
theorem dX11_certain_14 : decode cX11_certain 14 = .ok (.invokevirtual 266, 3) := by decide +kernel
theorem dX11_certain_17 : decode cX11_certain 17 = .ok (.goto 5, 3) := by decide +kernel
theorem dX11_certain_20 : decode cX11_certain 20 = .ok (.bipush (-2), 2) := by decide +kernel
theorem dX11_certain_22 : decode cX11_certain 22 = .ok (.ireturn, 1) := by decide +kernel
theorem dX11_stuck_0 : decode cX11_stuck 0 = .ok (.aload_n 0, 1) := by decide +kernel
theorem dX11_stuck_1 : decode cX11_stuck 1 = .ok (.iconst 0, 1) := by decide +kernel
theorem dX11_stuck_2 : decode cX11_stuck 2 = .ok (.iload_n 1, 1) := by decide +kernel
theorem dX11_stuck_3 : decode cX11_stuck 3 = .ok (.invokevirtual 87, 3) := by decide +kernel
theorem dX11_stuck_6 : decode cX11_stuck 6 = .ok (.ifCond .eq 22, 3) := by decide +kernel
theorem dX11_stuck_9 : decode cX11_stuck 9 = .ok (.aload_n 0, 1) := by decide +kernel
theorem dX11_stuck_10 : decode cX11_stuck 10 = .ok (.getfield 51, 3) := by decide +kernel
theorem dX11_stuck_13 : decode cX11_stuck 13 = .ok (.aload_n 0, 1) := by decide +kernel
theorem dX11_stuck_14 : decode cX11_stuck 14 = .ok (.getfield 10, 3) := by decide +kernel
theorem dX11_stuck_17 : decode cX11_stuck 17 = .ok (.getfield 111, 3) := by decide +kernel
theorem dX11_stuck_20 : decode cX11_stuck 20 = .ok (.iload_n 1, 1) := by decide +kernel
theorem dX11_stuck_21 : decode cX11_stuck 21 = .ok (.aaload, 1) := by decide +kernel
theorem dX11_stuck_22 : decode cX11_stuck 22 = .ok (.invokevirtual 269, 3) := by decide +kernel
theorem dX11_stuck_25 : decode cX11_stuck 25 = .ok (.goto 4, 3) := by decide +kernel
theorem dX11_stuck_28 : decode cX11_stuck 28 = .ok (.iconst (-1), 1) := by decide +kernel
theorem dX11_stuck_29 : decode cX11_stuck 29 = .ok (.ireturn, 1) := by decide +kernel
theorem dX11_after_0 : decode cX11_after 0 = .ok (.aload_n 0, 1) := by decide +kernel
theorem dX11_after_1 : decode cX11_after 1 = .ok (.iconst 0, 1) := by decide +kernel
theorem dX11_after_2 : decode cX11_after 2 = .ok (.iload_n 1, 1) := by decide +kernel
theorem dX11_after_3 : decode cX11_after 3 = .ok (.invokevirtual 87, 3) := by decide +kernel
theorem dX11_after_6 : decode cX11_after 6 = .ok (.ifCond .eq 12, 3) := by decide +kernel
theorem dX11_after_9 : decode cX11_after 9 = .ok (.aload_n 0, 1) := by decide +kernel
theorem dX11_after_10 : decode cX11_after 10 = .ok (.iconst 1, 1) := by decide +kernel
theorem dX11_after_11 : decode cX11_after 11 = .ok (.iload_n 2, 1) := by decide +kernel
theorem dX11_after_12 : decode cX11_after 12 = .ok (.invokevirtual 87, 3) := by decide +kernel
theorem dX11_after_15 : decode cX11_after 15 = .ok (.ifCond .ne 6, 3) := by decide +kernel
theorem dX11_after_18 : decode cX11_after 18 = .ok (.bipush (-2), 2) := by decide +kernel
theorem dX11_after_20 : decode cX11_after 20 = .ok (.ireturn, 1) := by decide +kernel
theorem dX11_after_21 : decode cX11_after 21 = .ok (.aload_n 0, 1) := by decide +kernel
theorem dX11_after_22 : decode cX11_after 22 = .ok (.getfield 10, 3) := by decide +kernel
theorem dX11_after_25 : decode cX11_after 25 = .ok (.getfield 111, 3) := by decide +kernel
theorem dX11_after_28 : decode cX11_after 28 = .ok (.iload_n 1, 1) := by decide +kernel
theorem dX11_after_29 : decode cX11_after 29 = .ok (.aaload, 1) := by decide +kernel
theorem dX11_after_30 : decode cX11_after 30 = .ok (.astore 4, 2) := by decide +kernel
theorem dX11_after_32 : decode cX11_after 32 = .ok (.aload_n 0, 1) := by decide +kernel
theorem dX11_after_33 : decode cX11_after 33 = .ok (.getfield 30, 3) := by decide +kernel
theorem dX11_after_36 : decode cX11_after 36 = .ok (.aload 4, 2) := by decide +kernel
theorem dX11_after_38 : decode cX11_after 38 = .ok (.aload_n 0, 1) := by decide +kernel
theorem dX11_after_39 : decode cX11_after 39 = .ok (.getfield 10, 3) := by decide +kernel
theorem dX11_after_42 : decode cX11_after 42 = .ok (.getfield 121, 3) := by decide +kernel
theorem dX11_after_45 : decode cX11_after 45 = .ok (.iload_n 2, 1) := by decide +kernel
theorem dX11_after_46 : decode cX11_after 46 = .ok (.aaload, 1) := by decide +kernel
theorem dX11_after_47 : decode cX11_after 47 = .ok (.bipush 40, 2) := by decide +kernel
theorem dX11_after_49 : decode cX11_after 49 = .ok (.invokevirtual 129, 3) := by decide +kernel
theorem dX11_after_52 : decode cX11_after 52 = .ok (.pop, 1) := by decide +kernel
theorem dX11_after_53 : decode cX11_after 53 = .ok (.aload_n 0, 1) := by decide +kernel
theorem dX11_after_54 : decode cX11_after 54 = .ok (.getfield 30, 3) := by decide +kernel
theorem dX11_after_57 : decode cX11_after 57 = .ok (.aload 4, 2) := by decide +kernel
theorem dX11_after_59 : decode cX11_after 59 = .ok (.iload_n 3, 1) := by decide +kernel
theorem dX11_after_60 : decode cX11_after 60 = .ok (.invokevirtual 272, 3) := by decide +kernel
theorem dX11_after_63 : decode cX11_after 63 = .ok (.ireturn, 1) := by decide +kernel
theorem dX11_count_0 : decode cX11_count 0 = .ok (.iload_n 1, 1) := by decide +kernel
theorem dX11_count_1 : decode cX11_count 1 = .ok (.ifCond .lt 20, 3) := by decide +kernel
theorem dX11_count_4 : decode cX11_count 4 = .ok (.iload_n 1, 1) := by decide +kernel
theorem dX11_count_5 : decode cX11_count 5 = .ok (.iconst 3, 1) := by decide +kernel
theorem dX11_count_6 : decode cX11_count 6 = .ok (.if_icmp .ge 15, 3) := by decide +kernel
theorem dX11_count_9 : decode cX11_count 9 = .ok (.aload_n 0, 1) := by decide +kernel
theorem dX11_count_10 : decode cX11_count 10 = .ok (.getfield 10, 3) := by decide +kernel
theorem dX11_count_13 : decode cX11_count 13 = .ok (.getfield 83, 3) := by decide +kernel
theorem dX11_count_16 : decode cX11_count 16 = .ok (.iload_n 1, 1) := by decide +kernel
theorem dX11_count_17 : decode cX11_count 17 = .ok (.iaload, 1) := by decide +kernel
theorem dX11_count_18 : decode cX11_count 18 = .ok (.goto 5, 3) := by decide +kernel
theorem dX11_count_21 : decode cX11_count 21 = .ok (.bipush (-2), 2) := by decide +kernel
theorem dX11_count_23 : decode cX11_count 23 = .ok (.ireturn, 1) := by decide +kernel
theorem dX11_image_0 : decode cX11_image 0 = .ok (.iload_n 1, 1) := by decide +kernel
theorem dX11_image_1 : decode cX11_image 1 = .ok (.ifCond .lt 8, 3) := by decide +kernel
theorem dX11_image_4 : decode cX11_image 4 = .ok (.iload_n 1, 1) := by decide +kernel
theorem dX11_image_5 : decode cX11_image 5 = .ok (.iconst 3, 1) := by decide +kernel
theorem dX11_image_6 : decode cX11_image 6 = .ok (.if_icmp .lt 5, 3) := by decide +kernel
theorem dX11_image_9 : decode cX11_image 9 = .ok (.iconst 0, 1) := by decide +kernel
theorem dX11_image_10 : decode cX11_image 10 = .ok (.ireturn, 1) := by decide +kernel
theorem dX11_image_11 : decode cX11_image 11 = .ok (.aload_n 0, 1) := by decide +kernel
theorem dX11_image_12 : decode cX11_image 12 = .ok (.getfield 16, 3) := by decide +kernel
theorem dX11_image_15 : decode cX11_image 15 = .ok (.iload_n 1, 1) := by decide +kernel
theorem dX11_image_16 : decode cX11_image 16 = .ok (.aaload, 1) := by decide +kernel
theorem dX11_image_17 : decode cX11_image 17 = .ok (.ifnonnull 16, 3) := by decide +kernel
theorem dX11_image_20 : decode cX11_image 20 = .ok (.aload_n 0, 1) := by decide +kernel
theorem dX11_image_21 : decode cX11_image 21 = .ok (.getfield 16, 3) := by decide +kernel
theorem dX11_image_24 : decode cX11_image 24 = .ok (.iload_n 1, 1) := by decide +kernel
theorem dX11_image_25 : decode cX11_image 25 = .ok (.new 7, 3) := by decide +kernel
theorem dX11_image_28 : decode cX11_image 28 = .ok (.dup, 1) := by decide +kernel
theorem dX11_image_29 : decode cX11_image 29 = .ok (.invokespecial 9, 3) := by decide +kernel
theorem dX11_image_32 : decode cX11_image 32 = .ok (.aastore, 1) := by decide +kernel
theorem dX11_image_33 : decode cX11_image 33 = .ok (.aload_n 0, 1) := by decide +kernel
theorem dX11_image_34 : decode cX11_image 34 = .ok (.getfield 16, 3) := by decide +kernel
theorem dX11_image_37 : decode cX11_image 37 = .ok (.iload_n 1, 1) := by decide +kernel
theorem dX11_image_38 : decode cX11_image 38 = .ok (.aaload, 1) := by decide +kernel
theorem dX11_image_39 : decode cX11_image 39 = .ok (.aload_n 0, 1) := by decide +kernel
theorem dX11_image_40 : decode cX11_image 40 = .ok (.getfield 10, 3) := by decide +kernel
theorem dX11_image_43 : decode cX11_image 43 = .ok (.invokevirtual 275, 3) := by decide +kernel
theorem dX11_image_46 : decode cX11_image 46 = .ok (.iconst 1, 1) := by decide +kernel
theorem dX11_image_47 : decode cX11_image 47 = .ok (.ireturn, 1) := by decide +kernel
theorem dX11_again_0 : decode cX11_again 0 = .ok (.iload_n 1, 1) := by decide +kernel
theorem dX11_again_1 : decode cX11_again 1 = .ok (.ifCond .lt 17, 3) := by decide +kernel
theorem dX11_again_4 : decode cX11_again 4 = .ok (.iload_n 1, 1) := by decide +kernel
theorem dX11_again_5 : decode cX11_again 5 = .ok (.iconst 3, 1) := by decide +kernel
theorem dX11_again_6 : decode cX11_again 6 = .ok (.if_icmp .ge 12, 3) := by decide +kernel
theorem dX11_again_9 : decode cX11_again 9 = .ok (.aload_n 0, 1) := by decide +kernel
theorem dX11_again_10 : decode cX11_again 10 = .ok (.getfield 16, 3) := by decide +kernel
theorem dX11_again_13 : decode cX11_again 13 = .ok (.iload_n 1, 1) := by decide +kernel
theorem dX11_again_14 : decode cX11_again 14 = .ok (.aaload, 1) := by decide +kernel
theorem dX11_again_15 : decode cX11_again 15 = .ok (.ifnonnull 5, 3) := by decide +kernel
theorem dX11_again_18 : decode cX11_again 18 = .ok (.iconst 0, 1) := by decide +kernel
theorem dX11_again_19 : decode cX11_again 19 = .ok (.ireturn, 1) := by decide +kernel
theorem dX11_again_20 : decode cX11_again 20 = .ok (.aload_n 0, 1) := by decide +kernel
theorem dX11_again_21 : decode cX11_again 21 = .ok (.getfield 10, 3) := by decide +kernel
theorem dX11_again_24 : decode cX11_again 24 = .ok (.aload_n 0, 1) := by decide +kernel
theorem dX11_again_25 : decode cX11_again 25 = .ok (.getfield 16, 3) := by decide +kernel
theorem dX11_again_28 : decode cX11_again 28 = .ok (.iload_n 1, 1) := by decide +kernel
theorem dX11_again_29 : decode cX11_again 29 = .ok (.aaload, 1) := by decide +kernel
theorem dX11_again_30 : decode cX11_again 30 = .ok (.invokevirtual 275, 3) := by decide +kernel
theorem dX11_again_33 : decode cX11_again 33 = .ok (.iconst 1, 1) := by decide +kernel
theorem dX11_again_34 : decode cX11_again 34 = .ok (.ireturn, 1) := by decide +kernel
theorem dX11_keepRead_0 : decode cX11_keepRead 0 = .ok (.iload_n 1, 1) := by decide +kernel
theorem dX11_keepRead_1 : decode cX11_keepRead 1 = .ok (.ifCond .ne 25, 3) := by decide +kernel
theorem dX11_keepRead_4 : decode cX11_keepRead 4 = .ok (.aload_n 0, 1) := by decide +kernel
theorem dX11_keepRead_5 : decode cX11_keepRead 5 = .ok (.getfield 10, 3) := by decide +kernel
theorem dX11_keepRead_8 : decode cX11_keepRead 8 = .ok (.getfield 111, 3) := by decide +kernel
theorem dX11_keepRead_11 : decode cX11_keepRead 11 = .ok (.iload_n 2, 1) := by decide +kernel
theorem dX11_keepRead_12 : decode cX11_keepRead 12 = .ok (.aaload, 1) := by decide +kernel
theorem dX11_keepRead_13 : decode cX11_keepRead 13 = .ok (.aload_n 0, 1) := by decide +kernel
theorem dX11_keepRead_14 : decode cX11_keepRead 14 = .ok (.getfield 23, 3) := by decide +kernel
theorem dX11_keepRead_17 : decode cX11_keepRead 17 = .ok (.getfield 279, 3) := by decide +kernel
theorem dX11_keepRead_20 : decode cX11_keepRead 20 = .ok (.invokevirtual 283, 3) := by decide +kernel
theorem dX11_keepRead_23 : decode cX11_keepRead 23 = .ok (.goto 49, 3) := by decide +kernel
theorem dX11_keepRead_26 : decode cX11_keepRead 26 = .ok (.iload_n 1, 1) := by decide +kernel
theorem dX11_keepRead_27 : decode cX11_keepRead 27 = .ok (.iconst 1, 1) := by decide +kernel
theorem dX11_keepRead_28 : decode cX11_keepRead 28 = .ok (.if_icmp .ne 25, 3) := by decide +kernel
theorem dX11_keepRead_31 : decode cX11_keepRead 31 = .ok (.aload_n 0, 1) := by decide +kernel
theorem dX11_keepRead_32 : decode cX11_keepRead 32 = .ok (.getfield 10, 3) := by decide +kernel
theorem dX11_keepRead_35 : decode cX11_keepRead 35 = .ok (.getfield 121, 3) := by decide +kernel
theorem dX11_keepRead_38 : decode cX11_keepRead 38 = .ok (.iload_n 2, 1) := by decide +kernel
theorem dX11_keepRead_39 : decode cX11_keepRead 39 = .ok (.aaload, 1) := by decide +kernel
theorem dX11_keepRead_40 : decode cX11_keepRead 40 = .ok (.aload_n 0, 1) := by decide +kernel
theorem dX11_keepRead_41 : decode cX11_keepRead 41 = .ok (.getfield 23, 3) := by decide +kernel
theorem dX11_keepRead_44 : decode cX11_keepRead 44 = .ok (.getfield 286, 3) := by decide +kernel
theorem dX11_keepRead_47 : decode cX11_keepRead 47 = .ok (.invokevirtual 290, 3) := by decide +kernel
theorem dX11_keepRead_50 : decode cX11_keepRead 50 = .ok (.goto 22, 3) := by decide +kernel
theorem dX11_keepRead_53 : decode cX11_keepRead 53 = .ok (.aload_n 0, 1) := by decide +kernel
theorem dX11_keepRead_54 : decode cX11_keepRead 54 = .ok (.getfield 10, 3) := by decide +kernel
theorem dX11_keepRead_57 : decode cX11_keepRead 57 = .ok (.getfield 197, 3) := by decide +kernel
theorem dX11_keepRead_60 : decode cX11_keepRead 60 = .ok (.iload_n 2, 1) := by decide +kernel
theorem dX11_keepRead_61 : decode cX11_keepRead 61 = .ok (.aaload, 1) := by decide +kernel
theorem dX11_keepRead_62 : decode cX11_keepRead 62 = .ok (.aload_n 0, 1) := by decide +kernel
theorem dX11_keepRead_63 : decode cX11_keepRead 63 = .ok (.getfield 23, 3) := by decide +kernel
theorem dX11_keepRead_66 : decode cX11_keepRead 66 = .ok (.getfield 293, 3) := by decide +kernel
theorem dX11_keepRead_69 : decode cX11_keepRead 69 = .ok (.invokevirtual 290, 3) := by decide +kernel
theorem dX11_keepRead_72 : decode cX11_keepRead 72 = .ok (.return_, 1) := by decide +kernel
theorem dX11_there_0 : decode cX11_there 0 = .ok (.iload_n 2, 1) := by decide +kernel
theorem dX11_there_1 : decode cX11_there 1 = .ok (.ifCond .lt 20, 3) := by decide +kernel
theorem dX11_there_4 : decode cX11_there 4 = .ok (.iload_n 2, 1) := by decide +kernel
theorem dX11_there_5 : decode cX11_there 5 = .ok (.aload_n 0, 1) := by decide +kernel
theorem dX11_there_6 : decode cX11_there 6 = .ok (.getfield 10, 3) := by decide +kernel
theorem dX11_there_9 : decode cX11_there 9 = .ok (.getfield 83, 3) := by decide +kernel
theorem dX11_there_12 : decode cX11_there 12 = .ok (.iload_n 1, 1) := by decide +kernel
theorem dX11_there_13 : decode cX11_there 13 = .ok (.iaload, 1) := by decide +kernel
theorem dX11_there_14 : decode cX11_there 14 = .ok (.if_icmp .ge 7, 3) := by decide +kernel
theorem dX11_there_17 : decode cX11_there 17 = .ok (.iconst 1, 1) := by decide +kernel
theorem dX11_there_18 : decode cX11_there 18 = .ok (.goto 4, 3) := by decide +kernel
theorem dX11_there_21 : decode cX11_there 21 = .ok (.iconst 0, 1) := by decide +kernel
theorem dX11_there_22 : decode cX11_there 22 = .ok (.ireturn, 1) := by decide +kernel
theorem dX11_thereLand_0 : decode cX11_thereLand 0 = .ok (.aload_n 0, 1) := by decide +kernel
theorem dX11_thereLand_1 : decode cX11_thereLand 1 = .ok (.iconst 0, 1) := by decide +kernel
theorem dX11_thereLand_2 : decode cX11_thereLand 2 = .ok (.iload_n 1, 1) := by decide +kernel
theorem dX11_thereLand_3 : decode cX11_thereLand 3 = .ok (.invokevirtual 87, 3) := by decide +kernel
theorem dX11_thereLand_6 : decode cX11_thereLand 6 = .ok (.ifCond .eq 27, 3) := by decide +kernel
theorem dX11_thereLand_9 : decode cX11_thereLand 9 = .ok (.iload_n 2, 1) := by decide +kernel
theorem dX11_thereLand_10 : decode cX11_thereLand 10 = .ok (.ifCond .lt 23, 3) := by decide +kernel
theorem dX11_thereLand_13 : decode cX11_thereLand 13 = .ok (.iload_n 2, 1) := by decide +kernel
theorem dX11_thereLand_14 : decode cX11_thereLand 14 = .ok (.aload_n 0, 1) := by decide +kernel
theorem dX11_thereLand_15 : decode cX11_thereLand 15 = .ok (.getfield 10, 3) := by decide +kernel
theorem dX11_thereLand_18 : decode cX11_thereLand 18 = .ok (.getfield 111, 3) := by decide +kernel
theorem dX11_thereLand_21 : decode cX11_thereLand 21 = .ok (.iload_n 1, 1) := by decide +kernel
theorem dX11_thereLand_22 : decode cX11_thereLand 22 = .ok (.aaload, 1) := by decide +kernel
theorem dX11_thereLand_23 : decode cX11_thereLand 23 = .ok (.getfield 166, 3) := by decide +kernel
theorem dX11_thereLand_26 : decode cX11_thereLand 26 = .ok (.if_icmp .ge 7, 3) := by decide +kernel
theorem dX11_thereLand_29 : decode cX11_thereLand 29 = .ok (.iconst 1, 1) := by decide +kernel
theorem dX11_thereLand_30 : decode cX11_thereLand 30 = .ok (.goto 4, 3) := by decide +kernel
theorem dX11_thereLand_33 : decode cX11_thereLand 33 = .ok (.iconst 0, 1) := by decide +kernel
theorem dX11_thereLand_34 : decode cX11_thereLand 34 = .ok (.ireturn, 1) := by decide +kernel
theorem dX11_therePermit_0 : decode cX11_therePermit 0 = .ok (.aload_n 0, 1) := by decide +kernel
theorem dX11_therePermit_1 : decode cX11_therePermit 1 = .ok (.iconst 0, 1) := by decide +kernel
theorem dX11_therePermit_2 : decode cX11_therePermit 2 = .ok (.iload_n 1, 1) := by decide +kernel
theorem dX11_therePermit_3 : decode cX11_therePermit 3 = .ok (.invokevirtual 87, 3) := by decide +kernel
theorem dX11_therePermit_6 : decode cX11_therePermit 6 = .ok (.ifCond .eq 27, 3) := by decide +kernel
theorem dX11_therePermit_9 : decode cX11_therePermit 9 = .ok (.iload_n 2, 1) := by decide +kernel
theorem dX11_therePermit_10 : decode cX11_therePermit 10 = .ok (.ifCond .lt 23, 3) := by decide +kernel
theorem dX11_therePermit_13 : decode cX11_therePermit 13 = .ok (.iload_n 2, 1) := by decide +kernel
theorem dX11_therePermit_14 : decode cX11_therePermit 14 = .ok (.aload_n 0, 1) := by decide +kernel
theorem dX11_therePermit_15 : decode cX11_therePermit 15 = .ok (.getfield 10, 3) := by decide +kernel
theorem dX11_therePermit_18 : decode cX11_therePermit 18 = .ok (.getfield 111, 3) := by decide +kernel
theorem dX11_therePermit_21 : decode cX11_therePermit 21 = .ok (.iload_n 1, 1) := by decide +kernel
theorem dX11_therePermit_22 : decode cX11_therePermit 22 = .ok (.aaload, 1) := by decide +kernel
theorem dX11_therePermit_23 : decode cX11_therePermit 23 = .ok (.getfield 296, 3) := by decide +kernel
theorem dX11_therePermit_26 : decode cX11_therePermit 26 = .ok (.if_icmp .ge 7, 3) := by decide +kernel
theorem dX11_therePermit_29 : decode cX11_therePermit 29 = .ok (.iconst 1, 1) := by decide +kernel
theorem dX11_therePermit_30 : decode cX11_therePermit 30 = .ok (.goto 4, 3) := by decide +kernel
theorem dX11_therePermit_33 : decode cX11_therePermit 33 = .ok (.iconst 0, 1) := by decide +kernel
theorem dX11_therePermit_34 : decode cX11_therePermit 34 = .ok (.ireturn, 1) := by decide +kernel
theorem dX11_thereClerk_0 : decode cX11_thereClerk 0 = .ok (.aload_n 0, 1) := by decide +kernel
theorem dX11_thereClerk_1 : decode cX11_thereClerk 1 = .ok (.iconst 0, 1) := by decide +kernel
theorem dX11_thereClerk_2 : decode cX11_thereClerk 2 = .ok (.iload_n 1, 1) := by decide +kernel
theorem dX11_thereClerk_3 : decode cX11_thereClerk 3 = .ok (.invokevirtual 87, 3) := by decide +kernel
theorem dX11_thereClerk_6 : decode cX11_thereClerk 6 = .ok (.ifCond .eq 27, 3) := by decide +kernel
theorem dX11_thereClerk_9 : decode cX11_thereClerk 9 = .ok (.iload_n 2, 1) := by decide +kernel
theorem dX11_thereClerk_10 : decode cX11_thereClerk 10 = .ok (.ifCond .lt 23, 3) := by decide +kernel
theorem dX11_thereClerk_13 : decode cX11_thereClerk 13 = .ok (.iload_n 2, 1) := by decide +kernel
theorem dX11_thereClerk_14 : decode cX11_thereClerk 14 = .ok (.aload_n 0, 1) := by decide +kernel
theorem dX11_thereClerk_15 : decode cX11_thereClerk 15 = .ok (.getfield 10, 3) := by decide +kernel
theorem dX11_thereClerk_18 : decode cX11_thereClerk 18 = .ok (.getfield 111, 3) := by decide +kernel
theorem dX11_thereClerk_21 : decode cX11_thereClerk 21 = .ok (.iload_n 1, 1) := by decide +kernel
theorem dX11_thereClerk_22 : decode cX11_thereClerk 22 = .ok (.aaload, 1) := by decide +kernel
theorem dX11_thereClerk_23 : decode cX11_thereClerk 23 = .ok (.getfield 239, 3) := by decide +kernel
theorem dX11_thereClerk_26 : decode cX11_thereClerk 26 = .ok (.if_icmp .ge 7, 3) := by decide +kernel
theorem dX11_thereClerk_29 : decode cX11_thereClerk 29 = .ok (.iconst 1, 1) := by decide +kernel
theorem dX11_thereClerk_30 : decode cX11_thereClerk 30 = .ok (.goto 4, 3) := by decide +kernel
theorem dX11_thereClerk_33 : decode cX11_thereClerk 33 = .ok (.iconst 0, 1) := by decide +kernel
theorem dX11_thereClerk_34 : decode cX11_thereClerk 34 = .ok (.ireturn, 1) := by decide +kernel
theorem dX11_traceable_0 : decode cX11_traceable 0 = .ok (.aload_n 0, 1) := by decide +kernel
theorem dX11_traceable_1 : decode cX11_traceable 1 = .ok (.iconst 0, 1) := by decide +kernel
theorem dX11_traceable_2 : decode cX11_traceable 2 = .ok (.iload_n 1, 1) := by decide +kernel
theorem dX11_traceable_3 : decode cX11_traceable 3 = .ok (.invokevirtual 87, 3) := by decide +kernel
theorem dX11_traceable_6 : decode cX11_traceable 6 = .ok (.ifCond .eq 44, 3) := by decide +kernel
theorem dX11_traceable_9 : decode cX11_traceable 9 = .ok (.aload_n 0, 1) := by decide +kernel
theorem dX11_traceable_10 : decode cX11_traceable 10 = .ok (.iconst 2, 1) := by decide +kernel
theorem dX11_traceable_11 : decode cX11_traceable 11 = .ok (.iload_n 2, 1) := by decide +kernel
theorem dX11_traceable_12 : decode cX11_traceable 12 = .ok (.invokevirtual 87, 3) := by decide +kernel
theorem dX11_traceable_15 : decode cX11_traceable 15 = .ok (.ifCond .eq 35, 3) := by decide +kernel
theorem dX11_traceable_18 : decode cX11_traceable 18 = .ok (.aload_n 0, 1) := by decide +kernel
theorem dX11_traceable_19 : decode cX11_traceable 19 = .ok (.getfield 65, 3) := by decide +kernel
theorem dX11_traceable_22 : decode cX11_traceable 22 = .ok (.aload_n 0, 1) := by decide +kernel
theorem dX11_traceable_23 : decode cX11_traceable 23 = .ok (.getfield 10, 3) := by decide +kernel
theorem dX11_traceable_26 : decode cX11_traceable 26 = .ok (.getfield 111, 3) := by decide +kernel
theorem dX11_traceable_29 : decode cX11_traceable 29 = .ok (.iload_n 1, 1) := by decide +kernel
theorem dX11_traceable_30 : decode cX11_traceable 30 = .ok (.aaload, 1) := by decide +kernel
theorem dX11_traceable_31 : decode cX11_traceable 31 = .ok (.aload_n 0, 1) := by decide +kernel
theorem dX11_traceable_32 : decode cX11_traceable 32 = .ok (.getfield 10, 3) := by decide +kernel
theorem dX11_traceable_35 : decode cX11_traceable 35 = .ok (.getfield 197, 3) := by decide +kernel
theorem dX11_traceable_38 : decode cX11_traceable 38 = .ok (.iload_n 2, 1) := by decide +kernel
theorem dX11_traceable_39 : decode cX11_traceable 39 = .ok (.aaload, 1) := by decide +kernel
theorem dX11_traceable_40 : decode cX11_traceable 40 = .ok (.invokevirtual 299, 3) := by decide +kernel
theorem dX11_traceable_43 : decode cX11_traceable 43 = .ok (.ifCond .eq 7, 3) := by decide +kernel
theorem dX11_traceable_46 : decode cX11_traceable 46 = .ok (.iconst 1, 1) := by decide +kernel
theorem dX11_traceable_47 : decode cX11_traceable 47 = .ok (.goto 4, 3) := by decide +kernel
theorem dX11_traceable_50 : decode cX11_traceable 50 = .ok (.iconst 0, 1) := by decide +kernel
theorem dX11_traceable_51 : decode cX11_traceable 51 = .ok (.ireturn, 1) := by decide +kernel
theorem dX11_isHour_0 : decode cX11_isHour 0 = .ok (.iload_n 0, 1) := by decide +kernel
theorem dX11_isHour_1 : decode cX11_isHour 1 = .ok (.ifCond .lt 13, 3) := by decide +kernel
theorem dX11_isHour_4 : decode cX11_isHour 4 = .ok (.iload_n 0, 1) := by decide +kernel
theorem dX11_isHour_5 : decode cX11_isHour 5 = .ok (.bipush 100, 2) := by decide +kernel
theorem dX11_isHour_7 : decode cX11_isHour 7 = .ok (.if_icmp .ge 7, 3) := by decide +kernel
theorem dX11_isHour_10 : decode cX11_isHour 10 = .ok (.iconst 1, 1) := by decide +kernel
theorem dX11_isHour_11 : decode cX11_isHour 11 = .ok (.goto 4, 3) := by decide +kernel
theorem dX11_isHour_14 : decode cX11_isHour 14 = .ok (.iconst 0, 1) := by decide +kernel
theorem dX11_isHour_15 : decode cX11_isHour 15 = .ok (.ireturn, 1) := by decide +kernel
theorem dX11_has_0 : decode cX11_has 0 = .ok (.iload_n 0, 1) := by decide +kernel
theorem dX11_has_1 : decode cX11_has 1 = .ok (.iload_n 1, 1) := by decide +kernel
theorem dX11_has_2 : decode cX11_has 2 = .ok (.ishr, 1) := by decide +kernel
theorem dX11_has_3 : decode cX11_has 3 = .ok (.iconst 1, 1) := by decide +kernel
theorem dX11_has_4 : decode cX11_has 4 = .ok (.iand, 1) := by decide +kernel
theorem dX11_has_5 : decode cX11_has 5 = .ok (.iconst 1, 1) := by decide +kernel
theorem dX11_has_6 : decode cX11_has 6 = .ok (.if_icmp .ne 7, 3) := by decide +kernel
theorem dX11_has_9 : decode cX11_has 9 = .ok (.iconst 1, 1) := by decide +kernel
theorem dX11_has_10 : decode cX11_has 10 = .ok (.goto 4, 3) := by decide +kernel
theorem dX11_has_13 : decode cX11_has 13 = .ok (.iconst 0, 1) := by decide +kernel
theorem dX11_has_14 : decode cX11_has 14 = .ok (.ireturn, 1) := by decide +kernel
theorem dX11_commonDivisor_0 : decode cX11_commonDivisor 0 = .ok (.lload_n 0, 1) := by decide +kernel
theorem dX11_commonDivisor_1 : decode cX11_commonDivisor 1 = .ok (.lstore 4, 2) := by decide +kernel
theorem dX11_commonDivisor_3 : decode cX11_commonDivisor 3 = .ok (.lload_n 2, 1) := by decide +kernel
theorem dX11_commonDivisor_4 : decode cX11_commonDivisor 4 = .ok (.lstore 6, 2) := by decide +kernel
theorem dX11_commonDivisor_6 : decode cX11_commonDivisor 6 = .ok (.iconst 0, 1) := by decide +kernel
theorem dX11_commonDivisor_7 : decode cX11_commonDivisor 7 = .ok (.istore 8, 2) := by decide +kernel
theorem dX11_commonDivisor_9 : decode cX11_commonDivisor 9 = .ok (.iload 8, 2) := by decide +kernel
theorem dX11_commonDivisor_11 : decode cX11_commonDivisor 11 = .ok (.bipush 64, 2) := by decide +kernel
theorem dX11_commonDivisor_13 : decode cX11_commonDivisor 13 = .ok (.if_icmp .ge 31, 3) := by decide +kernel
theorem dX11_commonDivisor_16 : decode cX11_commonDivisor 16 = .ok (.lload 6, 2) := by decide +kernel
theorem dX11_commonDivisor_18 : decode cX11_commonDivisor 18 = .ok (.lconst 0, 1) := by decide +kernel
theorem dX11_commonDivisor_19 : decode cX11_commonDivisor 19 = .ok (.lcmp, 1) := by decide +kernel
theorem dX11_commonDivisor_20 : decode cX11_commonDivisor 20 = .ok (.ifCond .eq 24, 3) := by decide +kernel
theorem dX11_commonDivisor_23 : decode cX11_commonDivisor 23 = .ok (.lload 4, 2) := by decide +kernel
theorem dX11_commonDivisor_25 : decode cX11_commonDivisor 25 = .ok (.lload 6, 2) := by decide +kernel
theorem dX11_commonDivisor_27 : decode cX11_commonDivisor 27 = .ok (.lrem, 1) := by decide +kernel
theorem dX11_commonDivisor_28 : decode cX11_commonDivisor 28 = .ok (.lstore 9, 2) := by decide +kernel
theorem dX11_commonDivisor_30 : decode cX11_commonDivisor 30 = .ok (.lload 6, 2) := by decide +kernel
theorem dX11_commonDivisor_32 : decode cX11_commonDivisor 32 = .ok (.lstore 4, 2) := by decide +kernel
theorem dX11_commonDivisor_34 : decode cX11_commonDivisor 34 = .ok (.lload 9, 2) := by decide +kernel
theorem dX11_commonDivisor_36 : decode cX11_commonDivisor 36 = .ok (.lstore 6, 2) := by decide +kernel
theorem dX11_commonDivisor_38 : decode cX11_commonDivisor 38 = .ok (.iinc 8 1, 3) := by decide +kernel
theorem dX11_commonDivisor_41 : decode cX11_commonDivisor 41 = .ok (.goto (-32), 3) := by decide +kernel
theorem dX11_commonDivisor_44 : decode cX11_commonDivisor 44 = .ok (.lload 4, 2) := by decide +kernel
theorem dX11_commonDivisor_46 : decode cX11_commonDivisor 46 = .ok (.lconst 0, 1) := by decide +kernel
theorem dX11_commonDivisor_47 : decode cX11_commonDivisor 47 = .ok (.lcmp, 1) := by decide +kernel
theorem dX11_commonDivisor_48 : decode cX11_commonDivisor 48 = .ok (.ifCond .ne 7, 3) := by decide +kernel
theorem dX11_commonDivisor_51 : decode cX11_commonDivisor 51 = .ok (.lconst 1, 1) := by decide +kernel
theorem dX11_commonDivisor_52 : decode cX11_commonDivisor 52 = .ok (.goto 5, 3) := by decide +kernel
theorem dX11_commonDivisor_55 : decode cX11_commonDivisor 55 = .ok (.lload 4, 2) := by decide +kernel
theorem dX11_commonDivisor_57 : decode cX11_commonDivisor 57 = .ok (.lreturn, 1) := by decide +kernel

theorem dX0_init_0 : decode cX0_init 0 = .ok (.aload_n 0, 1) := by decide +kernel
theorem dX0_init_1 : decode cX0_init 1 = .ok (.invokespecial 3, 3) := by decide +kernel
theorem dX0_init_4 : decode cX0_init 4 = .ok (.aload_n 0, 1) := by decide +kernel
theorem dX0_init_5 : decode cX0_init 5 = .ok (.bipush 6, 2) := by decide +kernel
theorem dX0_init_7 : decode cX0_init 7 = .ok (.newarray .int, 2) := by decide +kernel
theorem dX0_init_9 : decode cX0_init 9 = .ok (.putfield 9, 3) := by decide +kernel
theorem dX0_init_12 : decode cX0_init 12 = .ok (.return_, 1) := by decide +kernel
theorem dX0_answer_0 : decode cX0_answer 0 = .ok (.iconst 0, 1) := by decide +kernel
theorem dX0_answer_1 : decode cX0_answer 1 = .ok (.istore_n 3, 1) := by decide +kernel
theorem dX0_answer_2 : decode cX0_answer 2 = .ok (.iload_n 3, 1) := by decide +kernel
theorem dX0_answer_3 : decode cX0_answer 3 = .ok (.bipush 6, 2) := by decide +kernel
theorem dX0_answer_5 : decode cX0_answer 5 = .ok (.if_icmp .ge 16, 3) := by decide +kernel
theorem dX0_answer_8 : decode cX0_answer 8 = .ok (.aload_n 0, 1) := by decide +kernel
theorem dX0_answer_9 : decode cX0_answer 9 = .ok (.getfield 9, 3) := by decide +kernel
theorem dX0_answer_12 : decode cX0_answer 12 = .ok (.iload_n 3, 1) := by decide +kernel
theorem dX0_answer_13 : decode cX0_answer 13 = .ok (.iconst 0, 1) := by decide +kernel
theorem dX0_answer_14 : decode cX0_answer 14 = .ok (.iastore, 1) := by decide +kernel
theorem dX0_answer_15 : decode cX0_answer 15 = .ok (.iinc 3 1, 3) := by decide +kernel
theorem dX0_answer_18 : decode cX0_answer 18 = .ok (.goto (-16), 3) := by decide +kernel
theorem dX0_answer_21 : decode cX0_answer 21 = .ok (.iconst 0, 1) := by decide +kernel
theorem dX0_answer_22 : decode cX0_answer 22 = .ok (.istore_n 3, 1) := by decide +kernel
theorem dX0_answer_23 : decode cX0_answer 23 = .ok (.iload_n 3, 1) := by decide +kernel
theorem dX0_answer_24 : decode cX0_answer 24 = .ok (.aload_n 1, 1) := by decide +kernel
theorem dX0_answer_25 : decode cX0_answer 25 = .ok (.getfield 15, 3) := by decide +kernel
theorem dX0_answer_28 : decode cX0_answer 28 = .ok (.if_icmp .ge 29, 3) := by decide +kernel
theorem dX0_answer_31 : decode cX0_answer 31 = .ok (.aload_n 0, 1) := by decide +kernel
theorem dX0_answer_32 : decode cX0_answer 32 = .ok (.getfield 9, 3) := by decide +kernel
theorem dX0_answer_35 : decode cX0_answer 35 = .ok (.aload_n 1, 1) := by decide +kernel
theorem dX0_answer_36 : decode cX0_answer 36 = .ok (.getfield 21, 3) := by decide +kernel
theorem dX0_answer_39 : decode cX0_answer 39 = .ok (.iload_n 3, 1) := by decide +kernel
theorem dX0_answer_40 : decode cX0_answer 40 = .ok (.iaload, 1) := by decide +kernel
theorem dX0_answer_41 : decode cX0_answer 41 = .ok (.dup2, 1) := by decide +kernel
theorem dX0_answer_42 : decode cX0_answer 42 = .ok (.iaload, 1) := by decide +kernel
theorem dX0_answer_43 : decode cX0_answer 43 = .ok (.aload_n 1, 1) := by decide +kernel
theorem dX0_answer_44 : decode cX0_answer 44 = .ok (.getfield 24, 3) := by decide +kernel
theorem dX0_answer_47 : decode cX0_answer 47 = .ok (.iload_n 3, 1) := by decide +kernel
theorem dX0_answer_48 : decode cX0_answer 48 = .ok (.iaload, 1) := by decide +kernel
theorem dX0_answer_49 : decode cX0_answer 49 = .ok (.ior, 1) := by decide +kernel
theorem dX0_answer_50 : decode cX0_answer 50 = .ok (.iastore, 1) := by decide +kernel
theorem dX0_answer_51 : decode cX0_answer 51 = .ok (.iinc 3 1, 3) := by decide +kernel
theorem dX0_answer_54 : decode cX0_answer 54 = .ok (.goto (-31), 3) := by decide +kernel
theorem dX0_answer_57 : decode cX0_answer 57 = .ok (.iload_n 2, 1) := by decide +kernel
theorem dX0_answer_58 : decode cX0_answer 58 = .ok (.ifCond .ne 12, 3) := by decide +kernel
theorem dX0_answer_61 : decode cX0_answer 61 = .ok (.aload_n 0, 1) := by decide +kernel
theorem dX0_answer_62 : decode cX0_answer 62 = .ok (.aload_n 1, 1) := by decide +kernel
theorem dX0_answer_63 : decode cX0_answer 63 = .ok (.getfield 27, 3) := by decide +kernel
theorem dX0_answer_66 : decode cX0_answer 66 = .ok (.invokevirtual 30, 3) := by decide +kernel
theorem dX0_answer_69 : decode cX0_answer 69 = .ok (.ireturn, 1) := by decide +kernel
theorem dX0_answer_70 : decode cX0_answer 70 = .ok (.iload_n 2, 1) := by decide +kernel
theorem dX0_answer_71 : decode cX0_answer 71 = .ok (.iconst 1, 1) := by decide +kernel
theorem dX0_answer_72 : decode cX0_answer 72 = .ok (.if_icmp .ne 12, 3) := by decide +kernel
theorem dX0_answer_75 : decode cX0_answer 75 = .ok (.aload_n 0, 1) := by decide +kernel
theorem dX0_answer_76 : decode cX0_answer 76 = .ok (.aload_n 1, 1) := by decide +kernel
theorem dX0_answer_77 : decode cX0_answer 77 = .ok (.getfield 27, 3) := by decide +kernel
theorem dX0_answer_80 : decode cX0_answer 80 = .ok (.invokevirtual 34, 3) := by decide +kernel
theorem dX0_answer_83 : decode cX0_answer 83 = .ok (.ireturn, 1) := by decide +kernel
theorem dX0_answer_84 : decode cX0_answer 84 = .ok (.iload_n 2, 1) := by decide +kernel
theorem dX0_answer_85 : decode cX0_answer 85 = .ok (.bipush 10, 2) := by decide +kernel
theorem dX0_answer_87 : decode cX0_answer 87 = .ok (.if_icmp .lt 26, 3) := by decide +kernel
theorem dX0_answer_90 : decode cX0_answer 90 = .ok (.iload_n 2, 1) := by decide +kernel
theorem dX0_answer_91 : decode cX0_answer 91 = .ok (.bipush 10, 2) := by decide +kernel
theorem dX0_answer_93 : decode cX0_answer 93 = .ok (.aload_n 1, 1) := by decide +kernel
theorem dX0_answer_94 : decode cX0_answer 94 = .ok (.getfield 27, 3) := by decide +kernel
theorem dX0_answer_97 : decode cX0_answer 97 = .ok (.iadd, 1) := by decide +kernel
theorem dX0_answer_98 : decode cX0_answer 98 = .ok (.if_icmp .ge 15, 3) := by decide +kernel
theorem dX0_answer_101 : decode cX0_answer 101 = .ok (.aload_n 0, 1) := by decide +kernel
theorem dX0_answer_102 : decode cX0_answer 102 = .ok (.getfield 9, 3) := by decide +kernel
theorem dX0_answer_105 : decode cX0_answer 105 = .ok (.iload_n 2, 1) := by decide +kernel
theorem dX0_answer_106 : decode cX0_answer 106 = .ok (.bipush 10, 2) := by decide +kernel
theorem dX0_answer_108 : decode cX0_answer 108 = .ok (.isub, 1) := by decide +kernel
theorem dX0_answer_109 : decode cX0_answer 109 = .ok (.iaload, 1) := by decide +kernel
theorem dX0_answer_110 : decode cX0_answer 110 = .ok (.goto 5, 3) := by decide +kernel
theorem dX0_answer_113 : decode cX0_answer 113 = .ok (.bipush (-2), 2) := by decide +kernel
theorem dX0_answer_115 : decode cX0_answer 115 = .ok (.ireturn, 1) := by decide +kernel
theorem dX0_shortestRing_0 : decode cX0_shortestRing 0 = .ok (.iconst 2, 1) := by decide +kernel
theorem dX0_shortestRing_1 : decode cX0_shortestRing 1 = .ok (.istore_n 2, 1) := by decide +kernel
theorem dX0_shortestRing_2 : decode cX0_shortestRing 2 = .ok (.iload_n 2, 1) := by decide +kernel
theorem dX0_shortestRing_3 : decode cX0_shortestRing 3 = .ok (.iload_n 1, 1) := by decide +kernel
theorem dX0_shortestRing_4 : decode cX0_shortestRing 4 = .ok (.if_icmp .gt 38, 3) := by decide +kernel
theorem dX0_shortestRing_7 : decode cX0_shortestRing 7 = .ok (.iconst 0, 1) := by decide +kernel
theorem dX0_shortestRing_8 : decode cX0_shortestRing 8 = .ok (.istore_n 3, 1) := by decide +kernel
theorem dX0_shortestRing_9 : decode cX0_shortestRing 9 = .ok (.iload_n 3, 1) := by decide +kernel
theorem dX0_shortestRing_10 : decode cX0_shortestRing 10 = .ok (.iload_n 1, 1) := by decide +kernel
theorem dX0_shortestRing_11 : decode cX0_shortestRing 11 = .ok (.if_icmp .ge 25, 3) := by decide +kernel
theorem dX0_shortestRing_14 : decode cX0_shortestRing 14 = .ok (.aload_n 0, 1) := by decide +kernel
theorem dX0_shortestRing_15 : decode cX0_shortestRing 15 = .ok (.iload_n 1, 1) := by decide +kernel
theorem dX0_shortestRing_16 : decode cX0_shortestRing 16 = .ok (.iload_n 3, 1) := by decide +kernel
theorem dX0_shortestRing_17 : decode cX0_shortestRing 17 = .ok (.iload_n 2, 1) := by decide +kernel
theorem dX0_shortestRing_18 : decode cX0_shortestRing 18 = .ok (.invokevirtual 37, 3) := by decide +kernel
theorem dX0_shortestRing_21 : decode cX0_shortestRing 21 = .ok (.iload_n 3, 1) := by decide +kernel
theorem dX0_shortestRing_22 : decode cX0_shortestRing 22 = .ok (.invokestatic 41, 3) := by decide +kernel
theorem dX0_shortestRing_25 : decode cX0_shortestRing 25 = .ok (.ifCond .eq 5, 3) := by decide +kernel
theorem dX0_shortestRing_28 : decode cX0_shortestRing 28 = .ok (.iload_n 2, 1) := by decide +kernel
theorem dX0_shortestRing_29 : decode cX0_shortestRing 29 = .ok (.ireturn, 1) := by decide +kernel
theorem dX0_shortestRing_30 : decode cX0_shortestRing 30 = .ok (.iinc 3 1, 3) := by decide +kernel
theorem dX0_shortestRing_33 : decode cX0_shortestRing 33 = .ok (.goto (-24), 3) := by decide +kernel
theorem dX0_shortestRing_36 : decode cX0_shortestRing 36 = .ok (.iinc 2 1, 3) := by decide +kernel
theorem dX0_shortestRing_39 : decode cX0_shortestRing 39 = .ok (.goto (-37), 3) := by decide +kernel
theorem dX0_shortestRing_42 : decode cX0_shortestRing 42 = .ok (.iconst (-1), 1) := by decide +kernel
theorem dX0_shortestRing_43 : decode cX0_shortestRing 43 = .ok (.ireturn, 1) := by decide +kernel
theorem dX0_askedBehind_0 : decode cX0_askedBehind 0 = .ok (.iconst 1, 1) := by decide +kernel
theorem dX0_askedBehind_1 : decode cX0_askedBehind 1 = .ok (.iload_n 2, 1) := by decide +kernel
theorem dX0_askedBehind_2 : decode cX0_askedBehind 2 = .ok (.ishl, 1) := by decide +kernel
theorem dX0_askedBehind_3 : decode cX0_askedBehind 3 = .ok (.istore 4, 2) := by decide +kernel
theorem dX0_askedBehind_5 : decode cX0_askedBehind 5 = .ok (.iconst 0, 1) := by decide +kernel
theorem dX0_askedBehind_6 : decode cX0_askedBehind 6 = .ok (.istore 5, 2) := by decide +kernel
theorem dX0_askedBehind_8 : decode cX0_askedBehind 8 = .ok (.iload 5, 2) := by decide +kernel
theorem dX0_askedBehind_10 : decode cX0_askedBehind 10 = .ok (.iload_n 3, 1) := by decide +kernel
theorem dX0_askedBehind_11 : decode cX0_askedBehind 11 = .ok (.if_icmp .ge 53, 3) := by decide +kernel
theorem dX0_askedBehind_14 : decode cX0_askedBehind 14 = .ok (.iconst 0, 1) := by decide +kernel
theorem dX0_askedBehind_15 : decode cX0_askedBehind 15 = .ok (.istore 6, 2) := by decide +kernel
theorem dX0_askedBehind_17 : decode cX0_askedBehind 17 = .ok (.iconst 0, 1) := by decide +kernel
theorem dX0_askedBehind_18 : decode cX0_askedBehind 18 = .ok (.istore 7, 2) := by decide +kernel
theorem dX0_askedBehind_20 : decode cX0_askedBehind 20 = .ok (.iload 7, 2) := by decide +kernel
theorem dX0_askedBehind_22 : decode cX0_askedBehind 22 = .ok (.iload_n 1, 1) := by decide +kernel
theorem dX0_askedBehind_23 : decode cX0_askedBehind 23 = .ok (.if_icmp .ge 31, 3) := by decide +kernel
theorem dX0_askedBehind_26 : decode cX0_askedBehind 26 = .ok (.iload 4, 2) := by decide +kernel
theorem dX0_askedBehind_28 : decode cX0_askedBehind 28 = .ok (.iload 7, 2) := by decide +kernel
theorem dX0_askedBehind_30 : decode cX0_askedBehind 30 = .ok (.invokestatic 41, 3) := by decide +kernel
theorem dX0_askedBehind_33 : decode cX0_askedBehind 33 = .ok (.ifCond .eq 15, 3) := by decide +kernel
theorem dX0_askedBehind_36 : decode cX0_askedBehind 36 = .ok (.iload 6, 2) := by decide +kernel
theorem dX0_askedBehind_38 : decode cX0_askedBehind 38 = .ok (.aload_n 0, 1) := by decide +kernel
theorem dX0_askedBehind_39 : decode cX0_askedBehind 39 = .ok (.getfield 9, 3) := by decide +kernel
theorem dX0_askedBehind_42 : decode cX0_askedBehind 42 = .ok (.iload 7, 2) := by decide +kernel
theorem dX0_askedBehind_44 : decode cX0_askedBehind 44 = .ok (.iaload, 1) := by decide +kernel
theorem dX0_askedBehind_45 : decode cX0_askedBehind 45 = .ok (.ior, 1) := by decide +kernel
theorem dX0_askedBehind_46 : decode cX0_askedBehind 46 = .ok (.istore 6, 2) := by decide +kernel
theorem dX0_askedBehind_48 : decode cX0_askedBehind 48 = .ok (.iinc 7 1, 3) := by decide +kernel
theorem dX0_askedBehind_51 : decode cX0_askedBehind 51 = .ok (.goto (-31), 3) := by decide +kernel
theorem dX0_askedBehind_54 : decode cX0_askedBehind 54 = .ok (.iload 6, 2) := by decide +kernel
theorem dX0_askedBehind_56 : decode cX0_askedBehind 56 = .ok (.istore 4, 2) := by decide +kernel
theorem dX0_askedBehind_58 : decode cX0_askedBehind 58 = .ok (.iinc 5 1, 3) := by decide +kernel
theorem dX0_askedBehind_61 : decode cX0_askedBehind 61 = .ok (.goto (-53), 3) := by decide +kernel
theorem dX0_askedBehind_64 : decode cX0_askedBehind 64 = .ok (.iload 4, 2) := by decide +kernel
theorem dX0_askedBehind_66 : decode cX0_askedBehind 66 = .ok (.ireturn, 1) := by decide +kernel
theorem dX0_fewestToBreak_0 : decode cX0_fewestToBreak 0 = .ok (.iconst 1, 1) := by decide +kernel
theorem dX0_fewestToBreak_1 : decode cX0_fewestToBreak 1 = .ok (.iload_n 1, 1) := by decide +kernel
theorem dX0_fewestToBreak_2 : decode cX0_fewestToBreak 2 = .ok (.ishl, 1) := by decide +kernel
theorem dX0_fewestToBreak_3 : decode cX0_fewestToBreak 3 = .ok (.iconst 1, 1) := by decide +kernel
theorem dX0_fewestToBreak_4 : decode cX0_fewestToBreak 4 = .ok (.isub, 1) := by decide +kernel
theorem dX0_fewestToBreak_5 : decode cX0_fewestToBreak 5 = .ok (.istore_n 2, 1) := by decide +kernel
theorem dX0_fewestToBreak_6 : decode cX0_fewestToBreak 6 = .ok (.iload_n 2, 1) := by decide +kernel
theorem dX0_fewestToBreak_7 : decode cX0_fewestToBreak 7 = .ok (.istore_n 3, 1) := by decide +kernel
theorem dX0_fewestToBreak_8 : decode cX0_fewestToBreak 8 = .ok (.iconst 0, 1) := by decide +kernel
theorem dX0_fewestToBreak_9 : decode cX0_fewestToBreak 9 = .ok (.istore 4, 2) := by decide +kernel
theorem dX0_fewestToBreak_11 : decode cX0_fewestToBreak 11 = .ok (.iload 4, 2) := by decide +kernel
theorem dX0_fewestToBreak_13 : decode cX0_fewestToBreak 13 = .ok (.iload_n 2, 1) := by decide +kernel
theorem dX0_fewestToBreak_14 : decode cX0_fewestToBreak 14 = .ok (.if_icmp .gt 38, 3) := by decide +kernel
theorem dX0_fewestToBreak_17 : decode cX0_fewestToBreak 17 = .ok (.iload 4, 2) := by decide +kernel
theorem dX0_fewestToBreak_19 : decode cX0_fewestToBreak 19 = .ok (.invokestatic 45, 3) := by decide +kernel
theorem dX0_fewestToBreak_22 : decode cX0_fewestToBreak 22 = .ok (.iload_n 3, 1) := by decide +kernel
theorem dX0_fewestToBreak_23 : decode cX0_fewestToBreak 23 = .ok (.invokestatic 45, 3) := by decide +kernel
theorem dX0_fewestToBreak_26 : decode cX0_fewestToBreak 26 = .ok (.if_icmp .ge 20, 3) := by decide +kernel
theorem dX0_fewestToBreak_29 : decode cX0_fewestToBreak 29 = .ok (.aload_n 0, 1) := by decide +kernel
theorem dX0_fewestToBreak_30 : decode cX0_fewestToBreak 30 = .ok (.iload_n 1, 1) := by decide +kernel
theorem dX0_fewestToBreak_31 : decode cX0_fewestToBreak 31 = .ok (.iload_n 2, 1) := by decide +kernel
theorem dX0_fewestToBreak_32 : decode cX0_fewestToBreak 32 = .ok (.iload 4, 2) := by decide +kernel
theorem dX0_fewestToBreak_34 : decode cX0_fewestToBreak 34 = .ok (.iconst (-1), 1) := by decide +kernel
theorem dX0_fewestToBreak_35 : decode cX0_fewestToBreak 35 = .ok (.ixor, 1) := by decide +kernel
theorem dX0_fewestToBreak_36 : decode cX0_fewestToBreak 36 = .ok (.iand, 1) := by decide +kernel
theorem dX0_fewestToBreak_37 : decode cX0_fewestToBreak 37 = .ok (.invokevirtual 50, 3) := by decide +kernel
theorem dX0_fewestToBreak_40 : decode cX0_fewestToBreak 40 = .ok (.ifCond .eq 6, 3) := by decide +kernel
theorem dX0_fewestToBreak_43 : decode cX0_fewestToBreak 43 = .ok (.iload 4, 2) := by decide +kernel
theorem dX0_fewestToBreak_45 : decode cX0_fewestToBreak 45 = .ok (.istore_n 3, 1) := by decide +kernel
theorem dX0_fewestToBreak_46 : decode cX0_fewestToBreak 46 = .ok (.iinc 4 1, 3) := by decide +kernel
theorem dX0_fewestToBreak_49 : decode cX0_fewestToBreak 49 = .ok (.goto (-38), 3) := by decide +kernel
theorem dX0_fewestToBreak_52 : decode cX0_fewestToBreak 52 = .ok (.iload_n 3, 1) := by decide +kernel
theorem dX0_fewestToBreak_53 : decode cX0_fewestToBreak 53 = .ok (.ireturn, 1) := by decide +kernel
theorem dX0_ringless_0 : decode cX0_ringless 0 = .ok (.iload_n 2, 1) := by decide +kernel
theorem dX0_ringless_1 : decode cX0_ringless 1 = .ok (.istore_n 3, 1) := by decide +kernel
theorem dX0_ringless_2 : decode cX0_ringless 2 = .ok (.iconst 0, 1) := by decide +kernel
theorem dX0_ringless_3 : decode cX0_ringless 3 = .ok (.istore 4, 2) := by decide +kernel
theorem dX0_ringless_5 : decode cX0_ringless 5 = .ok (.iload 4, 2) := by decide +kernel
theorem dX0_ringless_7 : decode cX0_ringless 7 = .ok (.iload_n 1, 1) := by decide +kernel
theorem dX0_ringless_8 : decode cX0_ringless 8 = .ok (.if_icmp .ge 58, 3) := by decide +kernel
theorem dX0_ringless_11 : decode cX0_ringless 11 = .ok (.iload_n 3, 1) := by decide +kernel
theorem dX0_ringless_12 : decode cX0_ringless 12 = .ok (.ifCond .eq 54, 3) := by decide +kernel
theorem dX0_ringless_15 : decode cX0_ringless 15 = .ok (.iconst 0, 1) := by decide +kernel
theorem dX0_ringless_16 : decode cX0_ringless 16 = .ok (.istore 5, 2) := by decide +kernel
theorem dX0_ringless_18 : decode cX0_ringless 18 = .ok (.iload 5, 2) := by decide +kernel
theorem dX0_ringless_20 : decode cX0_ringless 20 = .ok (.iload_n 1, 1) := by decide +kernel
theorem dX0_ringless_21 : decode cX0_ringless 21 = .ok (.if_icmp .ge 39, 3) := by decide +kernel
theorem dX0_ringless_24 : decode cX0_ringless 24 = .ok (.iload_n 3, 1) := by decide +kernel
theorem dX0_ringless_25 : decode cX0_ringless 25 = .ok (.iload 5, 2) := by decide +kernel
theorem dX0_ringless_27 : decode cX0_ringless 27 = .ok (.invokestatic 41, 3) := by decide +kernel
theorem dX0_ringless_30 : decode cX0_ringless 30 = .ok (.ifCond .eq 24, 3) := by decide +kernel
theorem dX0_ringless_33 : decode cX0_ringless 33 = .ok (.aload_n 0, 1) := by decide +kernel
theorem dX0_ringless_34 : decode cX0_ringless 34 = .ok (.getfield 9, 3) := by decide +kernel
theorem dX0_ringless_37 : decode cX0_ringless 37 = .ok (.iload 5, 2) := by decide +kernel
theorem dX0_ringless_39 : decode cX0_ringless 39 = .ok (.iaload, 1) := by decide +kernel
theorem dX0_ringless_40 : decode cX0_ringless 40 = .ok (.iload_n 3, 1) := by decide +kernel
theorem dX0_ringless_41 : decode cX0_ringless 41 = .ok (.iand, 1) := by decide +kernel
theorem dX0_ringless_42 : decode cX0_ringless 42 = .ok (.ifCond .ne 12, 3) := by decide +kernel
theorem dX0_ringless_45 : decode cX0_ringless 45 = .ok (.iload_n 3, 1) := by decide +kernel
theorem dX0_ringless_46 : decode cX0_ringless 46 = .ok (.iconst 1, 1) := by decide +kernel
theorem dX0_ringless_47 : decode cX0_ringless 47 = .ok (.iload 5, 2) := by decide +kernel
theorem dX0_ringless_49 : decode cX0_ringless 49 = .ok (.ishl, 1) := by decide +kernel
theorem dX0_ringless_50 : decode cX0_ringless 50 = .ok (.iconst (-1), 1) := by decide +kernel
theorem dX0_ringless_51 : decode cX0_ringless 51 = .ok (.ixor, 1) := by decide +kernel
theorem dX0_ringless_52 : decode cX0_ringless 52 = .ok (.iand, 1) := by decide +kernel
theorem dX0_ringless_53 : decode cX0_ringless 53 = .ok (.istore_n 3, 1) := by decide +kernel
theorem dX0_ringless_54 : decode cX0_ringless 54 = .ok (.iinc 5 1, 3) := by decide +kernel
theorem dX0_ringless_57 : decode cX0_ringless 57 = .ok (.goto (-39), 3) := by decide +kernel
theorem dX0_ringless_60 : decode cX0_ringless 60 = .ok (.iinc 4 1, 3) := by decide +kernel
theorem dX0_ringless_63 : decode cX0_ringless 63 = .ok (.goto (-58), 3) := by decide +kernel
theorem dX0_ringless_66 : decode cX0_ringless 66 = .ok (.iload_n 3, 1) := by decide +kernel
theorem dX0_ringless_67 : decode cX0_ringless 67 = .ok (.ifCond .ne 7, 3) := by decide +kernel
theorem dX0_ringless_70 : decode cX0_ringless 70 = .ok (.iconst 1, 1) := by decide +kernel
theorem dX0_ringless_71 : decode cX0_ringless 71 = .ok (.goto 4, 3) := by decide +kernel
theorem dX0_ringless_74 : decode cX0_ringless 74 = .ok (.iconst 0, 1) := by decide +kernel
theorem dX0_ringless_75 : decode cX0_ringless 75 = .ok (.ireturn, 1) := by decide +kernel
theorem dX1_init_0 : decode cX1_init 0 = .ok (.aload_n 0, 1) := by decide +kernel
theorem dX1_init_1 : decode cX1_init 1 = .ok (.invokespecial 3, 3) := by decide +kernel
theorem dX1_init_4 : decode cX1_init 4 = .ok (.aload_n 0, 1) := by decide +kernel
theorem dX1_init_5 : decode cX1_init 5 = .ok (.iconst 4, 1) := by decide +kernel
theorem dX1_init_6 : decode cX1_init 6 = .ok (.newarray .int, 2) := by decide +kernel
theorem dX1_init_8 : decode cX1_init 8 = .ok (.putfield 9, 3) := by decide +kernel
theorem dX1_init_11 : decode cX1_init 11 = .ok (.aload_n 0, 1) := by decide +kernel
theorem dX1_init_12 : decode cX1_init 12 = .ok (.iconst 4, 1) := by decide +kernel
theorem dX1_init_13 : decode cX1_init 13 = .ok (.newarray .int, 2) := by decide +kernel
theorem dX1_init_15 : decode cX1_init 15 = .ok (.putfield 15, 3) := by decide +kernel
theorem dX1_init_18 : decode cX1_init 18 = .ok (.aload_n 0, 1) := by decide +kernel
theorem dX1_init_19 : decode cX1_init 19 = .ok (.iconst 4, 1) := by decide +kernel
theorem dX1_init_20 : decode cX1_init 20 = .ok (.newarray .int, 2) := by decide +kernel
theorem dX1_init_22 : decode cX1_init 22 = .ok (.putfield 18, 3) := by decide +kernel
theorem dX1_init_25 : decode cX1_init 25 = .ok (.aload_n 0, 1) := by decide +kernel
theorem dX1_init_26 : decode cX1_init 26 = .ok (.iconst 4, 1) := by decide +kernel
theorem dX1_init_27 : decode cX1_init 27 = .ok (.newarray .int, 2) := by decide +kernel
theorem dX1_init_29 : decode cX1_init 29 = .ok (.putfield 21, 3) := by decide +kernel
theorem dX1_init_32 : decode cX1_init 32 = .ok (.aload_n 0, 1) := by decide +kernel
theorem dX1_init_33 : decode cX1_init 33 = .ok (.iconst 4, 1) := by decide +kernel
theorem dX1_init_34 : decode cX1_init 34 = .ok (.newarray .int, 2) := by decide +kernel
theorem dX1_init_36 : decode cX1_init 36 = .ok (.putfield 24, 3) := by decide +kernel
theorem dX1_init_39 : decode cX1_init 39 = .ok (.aload_n 0, 1) := by decide +kernel
theorem dX1_init_40 : decode cX1_init 40 = .ok (.bipush 8, 2) := by decide +kernel
theorem dX1_init_42 : decode cX1_init 42 = .ok (.newarray .int, 2) := by decide +kernel
theorem dX1_init_44 : decode cX1_init 44 = .ok (.putfield 27, 3) := by decide +kernel
theorem dX1_init_47 : decode cX1_init 47 = .ok (.aload_n 0, 1) := by decide +kernel
theorem dX1_init_48 : decode cX1_init 48 = .ok (.bipush 48, 2) := by decide +kernel
theorem dX1_init_50 : decode cX1_init 50 = .ok (.newarray .int, 2) := by decide +kernel
theorem dX1_init_52 : decode cX1_init 52 = .ok (.putfield 30, 3) := by decide +kernel
theorem dX1_init_55 : decode cX1_init 55 = .ok (.aload_n 0, 1) := by decide +kernel
theorem dX1_init_56 : decode cX1_init 56 = .ok (.iconst 0, 1) := by decide +kernel
theorem dX1_init_57 : decode cX1_init 57 = .ok (.putfield 33, 3) := by decide +kernel
theorem dX1_init_60 : decode cX1_init 60 = .ok (.aload_n 0, 1) := by decide +kernel
theorem dX1_init_61 : decode cX1_init 61 = .ok (.iconst 0, 1) := by decide +kernel
theorem dX1_init_62 : decode cX1_init 62 = .ok (.putfield 37, 3) := by decide +kernel
theorem dX1_init_65 : decode cX1_init 65 = .ok (.aload_n 0, 1) := by decide +kernel
theorem dX1_init_66 : decode cX1_init 66 = .ok (.iconst (-1), 1) := by decide +kernel
theorem dX1_init_67 : decode cX1_init 67 = .ok (.putfield 41, 3) := by decide +kernel
theorem dX1_init_70 : decode cX1_init 70 = .ok (.return_, 1) := by decide +kernel
theorem dX1_begin_0 : decode cX1_begin 0 = .ok (.iconst 0, 1) := by decide +kernel
theorem dX1_begin_1 : decode cX1_begin 1 = .ok (.istore_n 2, 1) := by decide +kernel
theorem dX1_begin_2 : decode cX1_begin 2 = .ok (.iload_n 2, 1) := by decide +kernel
theorem dX1_begin_3 : decode cX1_begin 3 = .ok (.iconst 4, 1) := by decide +kernel
theorem dX1_begin_4 : decode cX1_begin 4 = .ok (.if_icmp .ge 49, 3) := by decide +kernel
theorem dX1_begin_7 : decode cX1_begin 7 = .ok (.aload_n 0, 1) := by decide +kernel
theorem dX1_begin_8 : decode cX1_begin 8 = .ok (.getfield 9, 3) := by decide +kernel
theorem dX1_begin_11 : decode cX1_begin 11 = .ok (.iload_n 2, 1) := by decide +kernel
theorem dX1_begin_12 : decode cX1_begin 12 = .ok (.aload_n 1, 1) := by decide +kernel
theorem dX1_begin_13 : decode cX1_begin 13 = .ok (.getfield 44, 3) := by decide +kernel
theorem dX1_begin_16 : decode cX1_begin 16 = .ok (.iload_n 2, 1) := by decide +kernel
theorem dX1_begin_17 : decode cX1_begin 17 = .ok (.iaload, 1) := by decide +kernel
theorem dX1_begin_18 : decode cX1_begin 18 = .ok (.iastore, 1) := by decide +kernel
theorem dX1_begin_19 : decode cX1_begin 19 = .ok (.aload_n 0, 1) := by decide +kernel
theorem dX1_begin_20 : decode cX1_begin 20 = .ok (.getfield 15, 3) := by decide +kernel
theorem dX1_begin_23 : decode cX1_begin 23 = .ok (.iload_n 2, 1) := by decide +kernel
theorem dX1_begin_24 : decode cX1_begin 24 = .ok (.iconst 0, 1) := by decide +kernel
theorem dX1_begin_25 : decode cX1_begin 25 = .ok (.iastore, 1) := by decide +kernel
theorem dX1_begin_26 : decode cX1_begin 26 = .ok (.aload_n 0, 1) := by decide +kernel
theorem dX1_begin_27 : decode cX1_begin 27 = .ok (.getfield 18, 3) := by decide +kernel
theorem dX1_begin_30 : decode cX1_begin 30 = .ok (.iload_n 2, 1) := by decide +kernel
theorem dX1_begin_31 : decode cX1_begin 31 = .ok (.iconst 0, 1) := by decide +kernel
theorem dX1_begin_32 : decode cX1_begin 32 = .ok (.iastore, 1) := by decide +kernel
theorem dX1_begin_33 : decode cX1_begin 33 = .ok (.aload_n 0, 1) := by decide +kernel
theorem dX1_begin_34 : decode cX1_begin 34 = .ok (.getfield 21, 3) := by decide +kernel
theorem dX1_begin_37 : decode cX1_begin 37 = .ok (.iload_n 2, 1) := by decide +kernel
theorem dX1_begin_38 : decode cX1_begin 38 = .ok (.iconst 0, 1) := by decide +kernel
theorem dX1_begin_39 : decode cX1_begin 39 = .ok (.iastore, 1) := by decide +kernel
theorem dX1_begin_40 : decode cX1_begin 40 = .ok (.aload_n 0, 1) := by decide +kernel
theorem dX1_begin_41 : decode cX1_begin 41 = .ok (.getfield 24, 3) := by decide +kernel
theorem dX1_begin_44 : decode cX1_begin 44 = .ok (.iload_n 2, 1) := by decide +kernel
theorem dX1_begin_45 : decode cX1_begin 45 = .ok (.iconst 0, 1) := by decide +kernel
theorem dX1_begin_46 : decode cX1_begin 46 = .ok (.iastore, 1) := by decide +kernel
theorem dX1_begin_47 : decode cX1_begin 47 = .ok (.iinc 2 1, 3) := by decide +kernel
theorem dX1_begin_50 : decode cX1_begin 50 = .ok (.goto (-48), 3) := by decide +kernel
theorem dX1_begin_53 : decode cX1_begin 53 = .ok (.iconst 0, 1) := by decide +kernel
theorem dX1_begin_54 : decode cX1_begin 54 = .ok (.istore_n 2, 1) := by decide +kernel
theorem dX1_begin_55 : decode cX1_begin 55 = .ok (.iload_n 2, 1) := by decide +kernel
theorem dX1_begin_56 : decode cX1_begin 56 = .ok (.bipush 8, 2) := by decide +kernel
theorem dX1_begin_58 : decode cX1_begin 58 = .ok (.if_icmp .ge 16, 3) := by decide +kernel
theorem dX1_begin_61 : decode cX1_begin 61 = .ok (.aload_n 0, 1) := by decide +kernel
theorem dX1_begin_62 : decode cX1_begin 62 = .ok (.getfield 27, 3) := by decide +kernel
theorem dX1_begin_65 : decode cX1_begin 65 = .ok (.iload_n 2, 1) := by decide +kernel
theorem dX1_begin_66 : decode cX1_begin 66 = .ok (.iconst 0, 1) := by decide +kernel
theorem dX1_begin_67 : decode cX1_begin 67 = .ok (.iastore, 1) := by decide +kernel
theorem dX1_begin_68 : decode cX1_begin 68 = .ok (.iinc 2 1, 3) := by decide +kernel
theorem dX1_begin_71 : decode cX1_begin 71 = .ok (.goto (-16), 3) := by decide +kernel
theorem dX1_begin_74 : decode cX1_begin 74 = .ok (.aload_n 0, 1) := by decide +kernel
theorem dX1_begin_75 : decode cX1_begin 75 = .ok (.iconst 0, 1) := by decide +kernel
theorem dX1_begin_76 : decode cX1_begin 76 = .ok (.putfield 33, 3) := by decide +kernel
theorem dX1_begin_79 : decode cX1_begin 79 = .ok (.aload_n 0, 1) := by decide +kernel
theorem dX1_begin_80 : decode cX1_begin 80 = .ok (.iconst (-1), 1) := by decide +kernel
theorem dX1_begin_81 : decode cX1_begin 81 = .ok (.putfield 41, 3) := by decide +kernel
theorem dX1_begin_84 : decode cX1_begin 84 = .ok (.return_, 1) := by decide +kernel
theorem dX1_runMonth_0 : decode cX1_runMonth 0 = .ok (.aload_n 0, 1) := by decide +kernel
theorem dX1_runMonth_1 : decode cX1_runMonth 1 = .ok (.aload_n 1, 1) := by decide +kernel
theorem dX1_runMonth_2 : decode cX1_runMonth 2 = .ok (.invokevirtual 49, 3) := by decide +kernel
theorem dX1_runMonth_5 : decode cX1_runMonth 5 = .ok (.aload_n 2, 1) := by decide +kernel
theorem dX1_runMonth_6 : decode cX1_runMonth 6 = .ok (.getfield 53, 3) := by decide +kernel
theorem dX1_runMonth_9 : decode cX1_runMonth 9 = .ok (.iload_n 3, 1) := by decide +kernel
theorem dX1_runMonth_10 : decode cX1_runMonth 10 = .ok (.invokestatic 58, 3) := by decide +kernel
theorem dX1_runMonth_13 : decode cX1_runMonth 13 = .ok (.istore 4, 2) := by decide +kernel
theorem dX1_runMonth_15 : decode cX1_runMonth 15 = .ok (.iconst 0, 1) := by decide +kernel
theorem dX1_runMonth_16 : decode cX1_runMonth 16 = .ok (.istore 5, 2) := by decide +kernel
theorem dX1_runMonth_18 : decode cX1_runMonth 18 = .ok (.iload 5, 2) := by decide +kernel
theorem dX1_runMonth_20 : decode cX1_runMonth 20 = .ok (.iload 4, 2) := by decide +kernel
theorem dX1_runMonth_22 : decode cX1_runMonth 22 = .ok (.if_icmp .ge 62, 3) := by decide +kernel
theorem dX1_runMonth_25 : decode cX1_runMonth 25 = .ok (.aload_n 0, 1) := by decide +kernel
theorem dX1_runMonth_26 : decode cX1_runMonth 26 = .ok (.aload_n 1, 1) := by decide +kernel
theorem dX1_runMonth_27 : decode cX1_runMonth 27 = .ok (.aload_n 2, 1) := by decide +kernel
theorem dX1_runMonth_28 : decode cX1_runMonth 28 = .ok (.iload 5, 2) := by decide +kernel
theorem dX1_runMonth_30 : decode cX1_runMonth 30 = .ok (.iconst 0, 1) := by decide +kernel
theorem dX1_runMonth_31 : decode cX1_runMonth 31 = .ok (.invokevirtual 64, 3) := by decide +kernel
theorem dX1_runMonth_34 : decode cX1_runMonth 34 = .ok (.aload_n 2, 1) := by decide +kernel
theorem dX1_runMonth_35 : decode cX1_runMonth 35 = .ok (.iload 5, 2) := by decide +kernel
theorem dX1_runMonth_37 : decode cX1_runMonth 37 = .ok (.iconst 1, 1) := by decide +kernel
theorem dX1_runMonth_38 : decode cX1_runMonth 38 = .ok (.invokevirtual 64, 3) := by decide +kernel
theorem dX1_runMonth_41 : decode cX1_runMonth 41 = .ok (.aload_n 2, 1) := by decide +kernel
theorem dX1_runMonth_42 : decode cX1_runMonth 42 = .ok (.iload 5, 2) := by decide +kernel
theorem dX1_runMonth_44 : decode cX1_runMonth 44 = .ok (.iconst 2, 1) := by decide +kernel
theorem dX1_runMonth_45 : decode cX1_runMonth 45 = .ok (.invokevirtual 64, 3) := by decide +kernel
theorem dX1_runMonth_48 : decode cX1_runMonth 48 = .ok (.invokevirtual 66, 3) := by decide +kernel
theorem dX1_runMonth_51 : decode cX1_runMonth 51 = .ok (.ifCond .ne 6, 3) := by decide +kernel
theorem dX1_runMonth_54 : decode cX1_runMonth 54 = .ok (.iload 5, 2) := by decide +kernel
theorem dX1_runMonth_56 : decode cX1_runMonth 56 = .ok (.ireturn, 1) := by decide +kernel
theorem dX1_runMonth_57 : decode cX1_runMonth 57 = .ok (.aload_n 0, 1) := by decide +kernel
theorem dX1_runMonth_58 : decode cX1_runMonth 58 = .ok (.getfield 33, 3) := by decide +kernel
theorem dX1_runMonth_61 : decode cX1_runMonth 61 = .ok (.ifCond .eq 17, 3) := by decide +kernel
theorem dX1_runMonth_64 : decode cX1_runMonth 64 = .ok (.aload_n 0, 1) := by decide +kernel
theorem dX1_runMonth_65 : decode cX1_runMonth 65 = .ok (.getfield 41, 3) := by decide +kernel
theorem dX1_runMonth_68 : decode cX1_runMonth 68 = .ok (.iconst (-1), 1) := by decide +kernel
theorem dX1_runMonth_69 : decode cX1_runMonth 69 = .ok (.if_icmp .ne 9, 3) := by decide +kernel
theorem dX1_runMonth_72 : decode cX1_runMonth 72 = .ok (.aload_n 0, 1) := by decide +kernel
theorem dX1_runMonth_73 : decode cX1_runMonth 73 = .ok (.iload 5, 2) := by decide +kernel
theorem dX1_runMonth_75 : decode cX1_runMonth 75 = .ok (.putfield 41, 3) := by decide +kernel
theorem dX1_runMonth_78 : decode cX1_runMonth 78 = .ok (.iinc 5 1, 3) := by decide +kernel
theorem dX1_runMonth_81 : decode cX1_runMonth 81 = .ok (.goto (-63), 3) := by decide +kernel
theorem dX1_runMonth_84 : decode cX1_runMonth 84 = .ok (.iload 4, 2) := by decide +kernel
theorem dX1_runMonth_86 : decode cX1_runMonth 86 = .ok (.ireturn, 1) := by decide +kernel
theorem dX1_runSeed_0 : decode cX1_runSeed 0 = .ok (.aload_n 0, 1) := by decide +kernel
theorem dX1_runSeed_1 : decode cX1_runSeed 1 = .ok (.aload_n 1, 1) := by decide +kernel
theorem dX1_runSeed_2 : decode cX1_runSeed 2 = .ok (.invokevirtual 49, 3) := by decide +kernel
theorem dX1_runSeed_5 : decode cX1_runSeed 5 = .ok (.aload_n 0, 1) := by decide +kernel
theorem dX1_runSeed_6 : decode cX1_runSeed 6 = .ok (.iload_n 2, 1) := by decide +kernel
theorem dX1_runSeed_7 : decode cX1_runSeed 7 = .ok (.putfield 37, 3) := by decide +kernel
theorem dX1_runSeed_10 : decode cX1_runSeed 10 = .ok (.iconst 0, 1) := by decide +kernel
theorem dX1_runSeed_11 : decode cX1_runSeed 11 = .ok (.istore 4, 2) := by decide +kernel
theorem dX1_runSeed_13 : decode cX1_runSeed 13 = .ok (.iload 4, 2) := by decide +kernel
theorem dX1_runSeed_15 : decode cX1_runSeed 15 = .ok (.iload_n 3, 1) := by decide +kernel
theorem dX1_runSeed_16 : decode cX1_runSeed 16 = .ok (.if_icmp .ge 14, 3) := by decide +kernel
theorem dX1_runSeed_19 : decode cX1_runSeed 19 = .ok (.aload_n 0, 1) := by decide +kernel
theorem dX1_runSeed_20 : decode cX1_runSeed 20 = .ok (.aload_n 1, 1) := by decide +kernel
theorem dX1_runSeed_21 : decode cX1_runSeed 21 = .ok (.invokevirtual 70, 3) := by decide +kernel
theorem dX1_runSeed_24 : decode cX1_runSeed 24 = .ok (.iinc 4 1, 3) := by decide +kernel
theorem dX1_runSeed_27 : decode cX1_runSeed 27 = .ok (.goto (-14), 3) := by decide +kernel
theorem dX1_runSeed_30 : decode cX1_runSeed 30 = .ok (.return_, 1) := by decide +kernel
theorem dX1_drawTurn_0 : decode cX1_drawTurn 0 = .ok (.aload_n 0, 1) := by decide +kernel
theorem dX1_drawTurn_1 : decode cX1_drawTurn 1 = .ok (.bipush 8, 2) := by decide +kernel
theorem dX1_drawTurn_3 : decode cX1_drawTurn 3 = .ok (.invokevirtual 73, 3) := by decide +kernel
theorem dX1_drawTurn_6 : decode cX1_drawTurn 6 = .ok (.istore_n 2, 1) := by decide +kernel
theorem dX1_drawTurn_7 : decode cX1_drawTurn 7 = .ok (.aload_n 1, 1) := by decide +kernel
theorem dX1_drawTurn_8 : decode cX1_drawTurn 8 = .ok (.getfield 77, 3) := by decide +kernel
theorem dX1_drawTurn_11 : decode cX1_drawTurn 11 = .ok (.ifCond .ne 4, 3) := by decide +kernel
theorem dX1_drawTurn_14 : decode cX1_drawTurn 14 = .ok (.return_, 1) := by decide +kernel
theorem dX1_drawTurn_15 : decode cX1_drawTurn 15 = .ok (.aload_n 0, 1) := by decide +kernel
theorem dX1_drawTurn_16 : decode cX1_drawTurn 16 = .ok (.aload_n 1, 1) := by decide +kernel
theorem dX1_drawTurn_17 : decode cX1_drawTurn 17 = .ok (.getfield 77, 3) := by decide +kernel
theorem dX1_drawTurn_20 : decode cX1_drawTurn 20 = .ok (.invokevirtual 73, 3) := by decide +kernel
theorem dX1_drawTurn_23 : decode cX1_drawTurn 23 = .ok (.istore_n 3, 1) := by decide +kernel
theorem dX1_drawTurn_24 : decode cX1_drawTurn 24 = .ok (.iload_n 2, 1) := by decide +kernel
theorem dX1_drawTurn_25 : decode cX1_drawTurn 25 = .ok (.iconst 3, 1) := by decide +kernel
theorem dX1_drawTurn_26 : decode cX1_drawTurn 26 = .ok (.if_icmp .ge 29, 3) := by decide +kernel
theorem dX1_drawTurn_29 : decode cX1_drawTurn 29 = .ok (.aload_n 1, 1) := by decide +kernel
theorem dX1_drawTurn_30 : decode cX1_drawTurn 30 = .ok (.getfield 80, 3) := by decide +kernel
theorem dX1_drawTurn_33 : decode cX1_drawTurn 33 = .ok (.ifCond .le 70, 3) := by decide +kernel
theorem dX1_drawTurn_36 : decode cX1_drawTurn 36 = .ok (.aload_n 0, 1) := by decide +kernel
theorem dX1_drawTurn_37 : decode cX1_drawTurn 37 = .ok (.aload_n 1, 1) := by decide +kernel
theorem dX1_drawTurn_38 : decode cX1_drawTurn 38 = .ok (.iconst 0, 1) := by decide +kernel
theorem dX1_drawTurn_39 : decode cX1_drawTurn 39 = .ok (.iload_n 3, 1) := by decide +kernel
theorem dX1_drawTurn_40 : decode cX1_drawTurn 40 = .ok (.aload_n 0, 1) := by decide +kernel
theorem dX1_drawTurn_41 : decode cX1_drawTurn 41 = .ok (.aload_n 1, 1) := by decide +kernel
theorem dX1_drawTurn_42 : decode cX1_drawTurn 42 = .ok (.getfield 80, 3) := by decide +kernel
theorem dX1_drawTurn_45 : decode cX1_drawTurn 45 = .ok (.invokevirtual 73, 3) := by decide +kernel
theorem dX1_drawTurn_48 : decode cX1_drawTurn 48 = .ok (.invokevirtual 66, 3) := by decide +kernel
theorem dX1_drawTurn_51 : decode cX1_drawTurn 51 = .ok (.pop, 1) := by decide +kernel
theorem dX1_drawTurn_52 : decode cX1_drawTurn 52 = .ok (.goto 51, 3) := by decide +kernel
theorem dX1_drawTurn_55 : decode cX1_drawTurn 55 = .ok (.iload_n 2, 1) := by decide +kernel
theorem dX1_drawTurn_56 : decode cX1_drawTurn 56 = .ok (.bipush 7, 2) := by decide +kernel
theorem dX1_drawTurn_58 : decode cX1_drawTurn 58 = .ok (.if_icmp .ge 29, 3) := by decide +kernel
theorem dX1_drawTurn_61 : decode cX1_drawTurn 61 = .ok (.aload_n 1, 1) := by decide +kernel
theorem dX1_drawTurn_62 : decode cX1_drawTurn 62 = .ok (.getfield 83, 3) := by decide +kernel
theorem dX1_drawTurn_65 : decode cX1_drawTurn 65 = .ok (.ifCond .le 38, 3) := by decide +kernel
theorem dX1_drawTurn_68 : decode cX1_drawTurn 68 = .ok (.aload_n 0, 1) := by decide +kernel
theorem dX1_drawTurn_69 : decode cX1_drawTurn 69 = .ok (.aload_n 1, 1) := by decide +kernel
theorem dX1_drawTurn_70 : decode cX1_drawTurn 70 = .ok (.iconst 2, 1) := by decide +kernel
theorem dX1_drawTurn_71 : decode cX1_drawTurn 71 = .ok (.iload_n 3, 1) := by decide +kernel
theorem dX1_drawTurn_72 : decode cX1_drawTurn 72 = .ok (.aload_n 0, 1) := by decide +kernel
theorem dX1_drawTurn_73 : decode cX1_drawTurn 73 = .ok (.aload_n 1, 1) := by decide +kernel
theorem dX1_drawTurn_74 : decode cX1_drawTurn 74 = .ok (.getfield 83, 3) := by decide +kernel
theorem dX1_drawTurn_77 : decode cX1_drawTurn 77 = .ok (.invokevirtual 73, 3) := by decide +kernel
theorem dX1_drawTurn_80 : decode cX1_drawTurn 80 = .ok (.invokevirtual 66, 3) := by decide +kernel
theorem dX1_drawTurn_83 : decode cX1_drawTurn 83 = .ok (.pop, 1) := by decide +kernel
theorem dX1_drawTurn_84 : decode cX1_drawTurn 84 = .ok (.goto 19, 3) := by decide +kernel
theorem dX1_drawTurn_87 : decode cX1_drawTurn 87 = .ok (.aload_n 0, 1) := by decide +kernel
theorem dX1_drawTurn_88 : decode cX1_drawTurn 88 = .ok (.aload_n 1, 1) := by decide +kernel
theorem dX1_drawTurn_89 : decode cX1_drawTurn 89 = .ok (.iconst 1, 1) := by decide +kernel
theorem dX1_drawTurn_90 : decode cX1_drawTurn 90 = .ok (.iload_n 3, 1) := by decide +kernel
theorem dX1_drawTurn_91 : decode cX1_drawTurn 91 = .ok (.iconst 1, 1) := by decide +kernel
theorem dX1_drawTurn_92 : decode cX1_drawTurn 92 = .ok (.aload_n 0, 1) := by decide +kernel
theorem dX1_drawTurn_93 : decode cX1_drawTurn 93 = .ok (.bipush 12, 2) := by decide +kernel
theorem dX1_drawTurn_95 : decode cX1_drawTurn 95 = .ok (.invokevirtual 73, 3) := by decide +kernel
theorem dX1_drawTurn_98 : decode cX1_drawTurn 98 = .ok (.iadd, 1) := by decide +kernel
theorem dX1_drawTurn_99 : decode cX1_drawTurn 99 = .ok (.invokevirtual 66, 3) := by decide +kernel
theorem dX1_drawTurn_102 : decode cX1_drawTurn 102 = .ok (.pop, 1) := by decide +kernel
theorem dX1_drawTurn_103 : decode cX1_drawTurn 103 = .ok (.return_, 1) := by decide +kernel
theorem dX1_draw_0 : decode cX1_draw 0 = .ok (.aload_n 0, 1) := by decide +kernel
theorem dX1_draw_1 : decode cX1_draw 1 = .ok (.aload_n 0, 1) := by decide +kernel
theorem dX1_draw_2 : decode cX1_draw 2 = .ok (.getfield 37, 3) := by decide +kernel
theorem dX1_draw_5 : decode cX1_draw 5 = .ok (.ldc 86, 2) := by decide +kernel
theorem dX1_draw_7 : decode cX1_draw 7 = .ok (.imul, 1) := by decide +kernel
theorem dX1_draw_8 : decode cX1_draw 8 = .ok (.sipush 12345, 3) := by decide +kernel
theorem dX1_draw_11 : decode cX1_draw 11 = .ok (.iadd, 1) := by decide +kernel
theorem dX1_draw_12 : decode cX1_draw 12 = .ok (.putfield 37, 3) := by decide +kernel
theorem dX1_draw_15 : decode cX1_draw 15 = .ok (.iload_n 1, 1) := by decide +kernel
theorem dX1_draw_16 : decode cX1_draw 16 = .ok (.iconst 1, 1) := by decide +kernel
theorem dX1_draw_17 : decode cX1_draw 17 = .ok (.if_icmp .ge 7, 3) := by decide +kernel
theorem dX1_draw_20 : decode cX1_draw 20 = .ok (.iconst 0, 1) := by decide +kernel
theorem dX1_draw_21 : decode cX1_draw 21 = .ok (.goto 12, 3) := by decide +kernel
theorem dX1_draw_24 : decode cX1_draw 24 = .ok (.aload_n 0, 1) := by decide +kernel
theorem dX1_draw_25 : decode cX1_draw 25 = .ok (.getfield 37, 3) := by decide +kernel
theorem dX1_draw_28 : decode cX1_draw 28 = .ok (.bipush 16, 2) := by decide +kernel
theorem dX1_draw_30 : decode cX1_draw 30 = .ok (.iushr, 1) := by decide +kernel
theorem dX1_draw_31 : decode cX1_draw 31 = .ok (.iload_n 1, 1) := by decide +kernel
theorem dX1_draw_32 : decode cX1_draw 32 = .ok (.irem, 1) := by decide +kernel
theorem dX1_draw_33 : decode cX1_draw 33 = .ok (.ireturn, 1) := by decide +kernel
theorem dX1_perform_0 : decode cX1_perform 0 = .ok (.iload_n 3, 1) := by decide +kernel
theorem dX1_perform_1 : decode cX1_perform 1 = .ok (.aload_n 1, 1) := by decide +kernel
theorem dX1_perform_2 : decode cX1_perform 2 = .ok (.getfield 77, 3) := by decide +kernel
theorem dX1_perform_5 : decode cX1_perform 5 = .ok (.if_icmp .lt 5, 3) := by decide +kernel
theorem dX1_perform_8 : decode cX1_perform 8 = .ok (.iconst 0, 1) := by decide +kernel
theorem dX1_perform_9 : decode cX1_perform 9 = .ok (.ireturn, 1) := by decide +kernel
theorem dX1_perform_10 : decode cX1_perform 10 = .ok (.iload_n 2, 1) := by decide +kernel
theorem dX1_perform_11 : decode cX1_perform 11 = .ok (.lookupswitch 42 #[(0, 25), (1, 34)], 25) := by decide +kernel
theorem dX1_perform_36 : decode cX1_perform 36 = .ok (.aload_n 0, 1) := by decide +kernel
theorem dX1_perform_37 : decode cX1_perform 37 = .ok (.aload_n 1, 1) := by decide +kernel
theorem dX1_perform_38 : decode cX1_perform 38 = .ok (.iload_n 3, 1) := by decide +kernel
theorem dX1_perform_39 : decode cX1_perform 39 = .ok (.iload 4, 2) := by decide +kernel
theorem dX1_perform_41 : decode cX1_perform 41 = .ok (.invokevirtual 87, 3) := by decide +kernel
theorem dX1_perform_44 : decode cX1_perform 44 = .ok (.ireturn, 1) := by decide +kernel
theorem dX1_perform_45 : decode cX1_perform 45 = .ok (.aload_n 0, 1) := by decide +kernel
theorem dX1_perform_46 : decode cX1_perform 46 = .ok (.iload_n 3, 1) := by decide +kernel
theorem dX1_perform_47 : decode cX1_perform 47 = .ok (.iload 4, 2) := by decide +kernel
theorem dX1_perform_49 : decode cX1_perform 49 = .ok (.invokevirtual 91, 3) := by decide +kernel
theorem dX1_perform_52 : decode cX1_perform 52 = .ok (.ireturn, 1) := by decide +kernel
theorem dX1_perform_53 : decode cX1_perform 53 = .ok (.aload_n 0, 1) := by decide +kernel
theorem dX1_perform_54 : decode cX1_perform 54 = .ok (.aload_n 1, 1) := by decide +kernel
theorem dX1_perform_55 : decode cX1_perform 55 = .ok (.iload_n 3, 1) := by decide +kernel
theorem dX1_perform_56 : decode cX1_perform 56 = .ok (.iload 4, 2) := by decide +kernel
theorem dX1_perform_58 : decode cX1_perform 58 = .ok (.invokevirtual 95, 3) := by decide +kernel
theorem dX1_perform_61 : decode cX1_perform 61 = .ok (.ireturn, 1) := by decide +kernel
theorem dX1_tryRide_0 : decode cX1_tryRide 0 = .ok (.iload_n 3, 1) := by decide +kernel
theorem dX1_tryRide_1 : decode cX1_tryRide 1 = .ok (.aload_n 1, 1) := by decide +kernel
theorem dX1_tryRide_2 : decode cX1_tryRide 2 = .ok (.getfield 80, 3) := by decide +kernel
theorem dX1_tryRide_5 : decode cX1_tryRide 5 = .ok (.if_icmp .ge 18, 3) := by decide +kernel
theorem dX1_tryRide_8 : decode cX1_tryRide 8 = .ok (.aload_n 1, 1) := by decide +kernel
theorem dX1_tryRide_9 : decode cX1_tryRide 9 = .ok (.getfield 98, 3) := by decide +kernel
theorem dX1_tryRide_12 : decode cX1_tryRide 12 = .ok (.iload_n 3, 1) := by decide +kernel
theorem dX1_tryRide_13 : decode cX1_tryRide 13 = .ok (.iaload, 1) := by decide +kernel
theorem dX1_tryRide_14 : decode cX1_tryRide 14 = .ok (.aload_n 0, 1) := by decide +kernel
theorem dX1_tryRide_15 : decode cX1_tryRide 15 = .ok (.getfield 9, 3) := by decide +kernel
theorem dX1_tryRide_18 : decode cX1_tryRide 18 = .ok (.iload_n 2, 1) := by decide +kernel
theorem dX1_tryRide_19 : decode cX1_tryRide 19 = .ok (.iaload, 1) := by decide +kernel
theorem dX1_tryRide_20 : decode cX1_tryRide 20 = .ok (.if_icmp .eq 5, 3) := by decide +kernel
theorem dX1_tryRide_23 : decode cX1_tryRide 23 = .ok (.iconst 0, 1) := by decide +kernel
theorem dX1_tryRide_24 : decode cX1_tryRide 24 = .ok (.ireturn, 1) := by decide +kernel
theorem dX1_tryRide_25 : decode cX1_tryRide 25 = .ok (.aload_n 1, 1) := by decide +kernel
theorem dX1_tryRide_26 : decode cX1_tryRide 26 = .ok (.iload_n 3, 1) := by decide +kernel
theorem dX1_tryRide_27 : decode cX1_tryRide 27 = .ok (.aload_n 0, 1) := by decide +kernel
theorem dX1_tryRide_28 : decode cX1_tryRide 28 = .ok (.getfield 15, 3) := by decide +kernel
theorem dX1_tryRide_31 : decode cX1_tryRide 31 = .ok (.iload_n 2, 1) := by decide +kernel
theorem dX1_tryRide_32 : decode cX1_tryRide 32 = .ok (.iaload, 1) := by decide +kernel
theorem dX1_tryRide_33 : decode cX1_tryRide 33 = .ok (.invokevirtual 101, 3) := by decide +kernel
theorem dX1_tryRide_36 : decode cX1_tryRide 36 = .ok (.istore 4, 2) := by decide +kernel
theorem dX1_tryRide_38 : decode cX1_tryRide 38 = .ok (.iload 4, 2) := by decide +kernel
theorem dX1_tryRide_40 : decode cX1_tryRide 40 = .ok (.sipush 299, 3) := by decide +kernel
theorem dX1_tryRide_43 : decode cX1_tryRide 43 = .ok (.if_icmp .le 5, 3) := by decide +kernel
theorem dX1_tryRide_46 : decode cX1_tryRide 46 = .ok (.iconst 0, 1) := by decide +kernel
theorem dX1_tryRide_47 : decode cX1_tryRide 47 = .ok (.ireturn, 1) := by decide +kernel
theorem dX1_tryRide_48 : decode cX1_tryRide 48 = .ok (.aload_n 0, 1) := by decide +kernel
theorem dX1_tryRide_49 : decode cX1_tryRide 49 = .ok (.getfield 21, 3) := by decide +kernel
theorem dX1_tryRide_52 : decode cX1_tryRide 52 = .ok (.iload_n 2, 1) := by decide +kernel
theorem dX1_tryRide_53 : decode cX1_tryRide 53 = .ok (.dup2, 1) := by decide +kernel
theorem dX1_tryRide_54 : decode cX1_tryRide 54 = .ok (.iaload, 1) := by decide +kernel
theorem dX1_tryRide_55 : decode cX1_tryRide 55 = .ok (.aload_n 1, 1) := by decide +kernel
theorem dX1_tryRide_56 : decode cX1_tryRide 56 = .ok (.getfield 104, 3) := by decide +kernel
theorem dX1_tryRide_59 : decode cX1_tryRide 59 = .ok (.iload_n 3, 1) := by decide +kernel
theorem dX1_tryRide_60 : decode cX1_tryRide 60 = .ok (.iaload, 1) := by decide +kernel
theorem dX1_tryRide_61 : decode cX1_tryRide 61 = .ok (.iadd, 1) := by decide +kernel
theorem dX1_tryRide_62 : decode cX1_tryRide 62 = .ok (.iastore, 1) := by decide +kernel
theorem dX1_tryRide_63 : decode cX1_tryRide 63 = .ok (.aload_n 0, 1) := by decide +kernel
theorem dX1_tryRide_64 : decode cX1_tryRide 64 = .ok (.getfield 24, 3) := by decide +kernel
theorem dX1_tryRide_67 : decode cX1_tryRide 67 = .ok (.iload_n 2, 1) := by decide +kernel
theorem dX1_tryRide_68 : decode cX1_tryRide 68 = .ok (.dup2, 1) := by decide +kernel
theorem dX1_tryRide_69 : decode cX1_tryRide 69 = .ok (.iaload, 1) := by decide +kernel
theorem dX1_tryRide_70 : decode cX1_tryRide 70 = .ok (.iload 4, 2) := by decide +kernel
theorem dX1_tryRide_72 : decode cX1_tryRide 72 = .ok (.aload_n 1, 1) := by decide +kernel
theorem dX1_tryRide_73 : decode cX1_tryRide 73 = .ok (.getfield 104, 3) := by decide +kernel
theorem dX1_tryRide_76 : decode cX1_tryRide 76 = .ok (.iload_n 3, 1) := by decide +kernel
theorem dX1_tryRide_77 : decode cX1_tryRide 77 = .ok (.iaload, 1) := by decide +kernel
theorem dX1_tryRide_78 : decode cX1_tryRide 78 = .ok (.isub, 1) := by decide +kernel
theorem dX1_tryRide_79 : decode cX1_tryRide 79 = .ok (.aload_n 0, 1) := by decide +kernel
theorem dX1_tryRide_80 : decode cX1_tryRide 80 = .ok (.getfield 15, 3) := by decide +kernel
theorem dX1_tryRide_83 : decode cX1_tryRide 83 = .ok (.iload_n 2, 1) := by decide +kernel
theorem dX1_tryRide_84 : decode cX1_tryRide 84 = .ok (.iaload, 1) := by decide +kernel
theorem dX1_tryRide_85 : decode cX1_tryRide 85 = .ok (.isub, 1) := by decide +kernel
theorem dX1_tryRide_86 : decode cX1_tryRide 86 = .ok (.iadd, 1) := by decide +kernel
theorem dX1_tryRide_87 : decode cX1_tryRide 87 = .ok (.iastore, 1) := by decide +kernel
theorem dX1_tryRide_88 : decode cX1_tryRide 88 = .ok (.aload_n 0, 1) := by decide +kernel
theorem dX1_tryRide_89 : decode cX1_tryRide 89 = .ok (.getfield 15, 3) := by decide +kernel
theorem dX1_tryRide_92 : decode cX1_tryRide 92 = .ok (.iload_n 2, 1) := by decide +kernel
theorem dX1_tryRide_93 : decode cX1_tryRide 93 = .ok (.iload 4, 2) := by decide +kernel
theorem dX1_tryRide_95 : decode cX1_tryRide 95 = .ok (.iastore, 1) := by decide +kernel
theorem dX1_tryRide_96 : decode cX1_tryRide 96 = .ok (.aload_n 0, 1) := by decide +kernel
theorem dX1_tryRide_97 : decode cX1_tryRide 97 = .ok (.getfield 9, 3) := by decide +kernel
theorem dX1_tryRide_100 : decode cX1_tryRide 100 = .ok (.iload_n 2, 1) := by decide +kernel
theorem dX1_tryRide_101 : decode cX1_tryRide 101 = .ok (.aload_n 1, 1) := by decide +kernel
theorem dX1_tryRide_102 : decode cX1_tryRide 102 = .ok (.getfield 107, 3) := by decide +kernel
theorem dX1_tryRide_105 : decode cX1_tryRide 105 = .ok (.iload_n 3, 1) := by decide +kernel
theorem dX1_tryRide_106 : decode cX1_tryRide 106 = .ok (.iaload, 1) := by decide +kernel
theorem dX1_tryRide_107 : decode cX1_tryRide 107 = .ok (.iastore, 1) := by decide +kernel
theorem dX1_tryRide_108 : decode cX1_tryRide 108 = .ok (.iconst 1, 1) := by decide +kernel
theorem dX1_tryRide_109 : decode cX1_tryRide 109 = .ok (.ireturn, 1) := by decide +kernel
theorem dX1_tryWait_0 : decode cX1_tryWait 0 = .ok (.aload_n 0, 1) := by decide +kernel
theorem dX1_tryWait_1 : decode cX1_tryWait 1 = .ok (.getfield 15, 3) := by decide +kernel
theorem dX1_tryWait_4 : decode cX1_tryWait 4 = .ok (.iload_n 1, 1) := by decide +kernel
theorem dX1_tryWait_5 : decode cX1_tryWait 5 = .ok (.iaload, 1) := by decide +kernel
theorem dX1_tryWait_6 : decode cX1_tryWait 6 = .ok (.iload_n 2, 1) := by decide +kernel
theorem dX1_tryWait_7 : decode cX1_tryWait 7 = .ok (.iadd, 1) := by decide +kernel
theorem dX1_tryWait_8 : decode cX1_tryWait 8 = .ok (.sipush 299, 3) := by decide +kernel
theorem dX1_tryWait_11 : decode cX1_tryWait 11 = .ok (.if_icmp .le 5, 3) := by decide +kernel
theorem dX1_tryWait_14 : decode cX1_tryWait 14 = .ok (.iconst 0, 1) := by decide +kernel
theorem dX1_tryWait_15 : decode cX1_tryWait 15 = .ok (.ireturn, 1) := by decide +kernel
theorem dX1_tryWait_16 : decode cX1_tryWait 16 = .ok (.aload_n 0, 1) := by decide +kernel
theorem dX1_tryWait_17 : decode cX1_tryWait 17 = .ok (.getfield 15, 3) := by decide +kernel
theorem dX1_tryWait_20 : decode cX1_tryWait 20 = .ok (.iload_n 1, 1) := by decide +kernel
theorem dX1_tryWait_21 : decode cX1_tryWait 21 = .ok (.dup2, 1) := by decide +kernel
theorem dX1_tryWait_22 : decode cX1_tryWait 22 = .ok (.iaload, 1) := by decide +kernel
theorem dX1_tryWait_23 : decode cX1_tryWait 23 = .ok (.iload_n 2, 1) := by decide +kernel
theorem dX1_tryWait_24 : decode cX1_tryWait 24 = .ok (.iadd, 1) := by decide +kernel
theorem dX1_tryWait_25 : decode cX1_tryWait 25 = .ok (.iastore, 1) := by decide +kernel
theorem dX1_tryWait_26 : decode cX1_tryWait 26 = .ok (.aload_n 0, 1) := by decide +kernel
theorem dX1_tryWait_27 : decode cX1_tryWait 27 = .ok (.getfield 24, 3) := by decide +kernel
theorem dX1_tryWait_30 : decode cX1_tryWait 30 = .ok (.iload_n 1, 1) := by decide +kernel
theorem dX1_tryWait_31 : decode cX1_tryWait 31 = .ok (.dup2, 1) := by decide +kernel
theorem dX1_tryWait_32 : decode cX1_tryWait 32 = .ok (.iaload, 1) := by decide +kernel
theorem dX1_tryWait_33 : decode cX1_tryWait 33 = .ok (.iload_n 2, 1) := by decide +kernel
theorem dX1_tryWait_34 : decode cX1_tryWait 34 = .ok (.iadd, 1) := by decide +kernel
theorem dX1_tryWait_35 : decode cX1_tryWait 35 = .ok (.iastore, 1) := by decide +kernel
theorem dX1_tryWait_36 : decode cX1_tryWait 36 = .ok (.iconst 1, 1) := by decide +kernel
theorem dX1_tryWait_37 : decode cX1_tryWait 37 = .ok (.ireturn, 1) := by decide +kernel
theorem dX1_tryMark_0 : decode cX1_tryMark 0 = .ok (.iload_n 3, 1) := by decide +kernel
theorem dX1_tryMark_1 : decode cX1_tryMark 1 = .ok (.aload_n 1, 1) := by decide +kernel
theorem dX1_tryMark_2 : decode cX1_tryMark 2 = .ok (.getfield 83, 3) := by decide +kernel
theorem dX1_tryMark_5 : decode cX1_tryMark 5 = .ok (.if_icmp .ge 13, 3) := by decide +kernel
theorem dX1_tryMark_8 : decode cX1_tryMark 8 = .ok (.aload_n 0, 1) := by decide +kernel
theorem dX1_tryMark_9 : decode cX1_tryMark 9 = .ok (.aload_n 1, 1) := by decide +kernel
theorem dX1_tryMark_10 : decode cX1_tryMark 10 = .ok (.iload_n 2, 1) := by decide +kernel
theorem dX1_tryMark_11 : decode cX1_tryMark 11 = .ok (.iload_n 3, 1) := by decide +kernel
theorem dX1_tryMark_12 : decode cX1_tryMark 12 = .ok (.invokevirtual 110, 3) := by decide +kernel
theorem dX1_tryMark_15 : decode cX1_tryMark 15 = .ok (.ifCond .ne 5, 3) := by decide +kernel
theorem dX1_tryMark_18 : decode cX1_tryMark 18 = .ok (.iconst 0, 1) := by decide +kernel
theorem dX1_tryMark_19 : decode cX1_tryMark 19 = .ok (.ireturn, 1) := by decide +kernel
theorem dX1_tryMark_20 : decode cX1_tryMark 20 = .ok (.aload_n 1, 1) := by decide +kernel
theorem dX1_tryMark_21 : decode cX1_tryMark 21 = .ok (.getfield 113, 3) := by decide +kernel
theorem dX1_tryMark_24 : decode cX1_tryMark 24 = .ok (.iload_n 2, 1) := by decide +kernel
theorem dX1_tryMark_25 : decode cX1_tryMark 25 = .ok (.iaload, 1) := by decide +kernel
theorem dX1_tryMark_26 : decode cX1_tryMark 26 = .ok (.istore 4, 2) := by decide +kernel
theorem dX1_tryMark_28 : decode cX1_tryMark 28 = .ok (.aload_n 0, 1) := by decide +kernel
theorem dX1_tryMark_29 : decode cX1_tryMark 29 = .ok (.getfield 27, 3) := by decide +kernel
theorem dX1_tryMark_32 : decode cX1_tryMark 32 = .ok (.iload_n 3, 1) := by decide +kernel
theorem dX1_tryMark_33 : decode cX1_tryMark 33 = .ok (.dup2, 1) := by decide +kernel
theorem dX1_tryMark_34 : decode cX1_tryMark 34 = .ok (.iaload, 1) := by decide +kernel
theorem dX1_tryMark_35 : decode cX1_tryMark 35 = .ok (.iconst 1, 1) := by decide +kernel
theorem dX1_tryMark_36 : decode cX1_tryMark 36 = .ok (.iload 4, 2) := by decide +kernel
theorem dX1_tryMark_38 : decode cX1_tryMark 38 = .ok (.ishl, 1) := by decide +kernel
theorem dX1_tryMark_39 : decode cX1_tryMark 39 = .ok (.ior, 1) := by decide +kernel
theorem dX1_tryMark_40 : decode cX1_tryMark 40 = .ok (.iastore, 1) := by decide +kernel
theorem dX1_tryMark_41 : decode cX1_tryMark 41 = .ok (.aload_n 0, 1) := by decide +kernel
theorem dX1_tryMark_42 : decode cX1_tryMark 42 = .ok (.getfield 30, 3) := by decide +kernel
theorem dX1_tryMark_45 : decode cX1_tryMark 45 = .ok (.iload_n 3, 1) := by decide +kernel
theorem dX1_tryMark_46 : decode cX1_tryMark 46 = .ok (.bipush 6, 2) := by decide +kernel
theorem dX1_tryMark_48 : decode cX1_tryMark 48 = .ok (.imul, 1) := by decide +kernel
theorem dX1_tryMark_49 : decode cX1_tryMark 49 = .ok (.iload 4, 2) := by decide +kernel
theorem dX1_tryMark_51 : decode cX1_tryMark 51 = .ok (.iadd, 1) := by decide +kernel
theorem dX1_tryMark_52 : decode cX1_tryMark 52 = .ok (.aload_n 0, 1) := by decide +kernel
theorem dX1_tryMark_53 : decode cX1_tryMark 53 = .ok (.getfield 15, 3) := by decide +kernel
theorem dX1_tryMark_56 : decode cX1_tryMark 56 = .ok (.iload_n 2, 1) := by decide +kernel
theorem dX1_tryMark_57 : decode cX1_tryMark 57 = .ok (.iaload, 1) := by decide +kernel
theorem dX1_tryMark_58 : decode cX1_tryMark 58 = .ok (.iastore, 1) := by decide +kernel
theorem dX1_tryMark_59 : decode cX1_tryMark 59 = .ok (.aload_n 0, 1) := by decide +kernel
theorem dX1_tryMark_60 : decode cX1_tryMark 60 = .ok (.getfield 15, 3) := by decide +kernel
theorem dX1_tryMark_63 : decode cX1_tryMark 63 = .ok (.iload_n 2, 1) := by decide +kernel
theorem dX1_tryMark_64 : decode cX1_tryMark 64 = .ok (.dup2, 1) := by decide +kernel
theorem dX1_tryMark_65 : decode cX1_tryMark 65 = .ok (.iaload, 1) := by decide +kernel
theorem dX1_tryMark_66 : decode cX1_tryMark 66 = .ok (.iconst 1, 1) := by decide +kernel
theorem dX1_tryMark_67 : decode cX1_tryMark 67 = .ok (.iadd, 1) := by decide +kernel
theorem dX1_tryMark_68 : decode cX1_tryMark 68 = .ok (.iastore, 1) := by decide +kernel
theorem dX1_tryMark_69 : decode cX1_tryMark 69 = .ok (.aload_n 0, 1) := by decide +kernel
theorem dX1_tryMark_70 : decode cX1_tryMark 70 = .ok (.getfield 18, 3) := by decide +kernel
theorem dX1_tryMark_73 : decode cX1_tryMark 73 = .ok (.iload_n 2, 1) := by decide +kernel
theorem dX1_tryMark_74 : decode cX1_tryMark 74 = .ok (.dup2, 1) := by decide +kernel
theorem dX1_tryMark_75 : decode cX1_tryMark 75 = .ok (.iaload, 1) := by decide +kernel
theorem dX1_tryMark_76 : decode cX1_tryMark 76 = .ok (.iconst 1, 1) := by decide +kernel
theorem dX1_tryMark_77 : decode cX1_tryMark 77 = .ok (.iadd, 1) := by decide +kernel
theorem dX1_tryMark_78 : decode cX1_tryMark 78 = .ok (.iastore, 1) := by decide +kernel
theorem dX1_tryMark_79 : decode cX1_tryMark 79 = .ok (.aload_n 0, 1) := by decide +kernel
theorem dX1_tryMark_80 : decode cX1_tryMark 80 = .ok (.aload_n 0, 1) := by decide +kernel
theorem dX1_tryMark_81 : decode cX1_tryMark 81 = .ok (.getfield 33, 3) := by decide +kernel
theorem dX1_tryMark_84 : decode cX1_tryMark 84 = .ok (.ifCond .ne 18, 3) := by decide +kernel
theorem dX1_tryMark_87 : decode cX1_tryMark 87 = .ok (.aload_n 0, 1) := by decide +kernel
theorem dX1_tryMark_88 : decode cX1_tryMark 88 = .ok (.getfield 27, 3) := by decide +kernel
theorem dX1_tryMark_91 : decode cX1_tryMark 91 = .ok (.iload_n 3, 1) := by decide +kernel
theorem dX1_tryMark_92 : decode cX1_tryMark 92 = .ok (.iaload, 1) := by decide +kernel
theorem dX1_tryMark_93 : decode cX1_tryMark 93 = .ok (.aload_n 1, 1) := by decide +kernel
theorem dX1_tryMark_94 : decode cX1_tryMark 94 = .ok (.getfield 116, 3) := by decide +kernel
theorem dX1_tryMark_97 : decode cX1_tryMark 97 = .ok (.iload_n 3, 1) := by decide +kernel
theorem dX1_tryMark_98 : decode cX1_tryMark 98 = .ok (.iaload, 1) := by decide +kernel
theorem dX1_tryMark_99 : decode cX1_tryMark 99 = .ok (.if_icmp .ne 7, 3) := by decide +kernel
theorem dX1_tryMark_102 : decode cX1_tryMark 102 = .ok (.iconst 1, 1) := by decide +kernel
theorem dX1_tryMark_103 : decode cX1_tryMark 103 = .ok (.goto 4, 3) := by decide +kernel
theorem dX1_tryMark_106 : decode cX1_tryMark 106 = .ok (.iconst 0, 1) := by decide +kernel
theorem dX1_tryMark_107 : decode cX1_tryMark 107 = .ok (.putfield 33, 3) := by decide +kernel
theorem dX1_tryMark_110 : decode cX1_tryMark 110 = .ok (.iconst 1, 1) := by decide +kernel
theorem dX1_tryMark_111 : decode cX1_tryMark 111 = .ok (.ireturn, 1) := by decide +kernel
theorem dX1_mayMark_0 : decode cX1_mayMark 0 = .ok (.aload_n 1, 1) := by decide +kernel
theorem dX1_mayMark_1 : decode cX1_mayMark 1 = .ok (.getfield 113, 3) := by decide +kernel
theorem dX1_mayMark_4 : decode cX1_mayMark 4 = .ok (.iload_n 2, 1) := by decide +kernel
theorem dX1_mayMark_5 : decode cX1_mayMark 5 = .ok (.iaload, 1) := by decide +kernel
theorem dX1_mayMark_6 : decode cX1_mayMark 6 = .ok (.istore 4, 2) := by decide +kernel
theorem dX1_mayMark_8 : decode cX1_mayMark 8 = .ok (.aload_n 1, 1) := by decide +kernel
theorem dX1_mayMark_9 : decode cX1_mayMark 9 = .ok (.getfield 119, 3) := by decide +kernel
theorem dX1_mayMark_12 : decode cX1_mayMark 12 = .ok (.iload_n 3, 1) := by decide +kernel
theorem dX1_mayMark_13 : decode cX1_mayMark 13 = .ok (.iaload, 1) := by decide +kernel
theorem dX1_mayMark_14 : decode cX1_mayMark 14 = .ok (.aload_n 0, 1) := by decide +kernel
theorem dX1_mayMark_15 : decode cX1_mayMark 15 = .ok (.getfield 9, 3) := by decide +kernel
theorem dX1_mayMark_18 : decode cX1_mayMark 18 = .ok (.iload_n 2, 1) := by decide +kernel
theorem dX1_mayMark_19 : decode cX1_mayMark 19 = .ok (.iaload, 1) := by decide +kernel
theorem dX1_mayMark_20 : decode cX1_mayMark 20 = .ok (.if_icmp .ne 57, 3) := by decide +kernel
theorem dX1_mayMark_23 : decode cX1_mayMark 23 = .ok (.aload_n 1, 1) := by decide +kernel
theorem dX1_mayMark_24 : decode cX1_mayMark 24 = .ok (.getfield 116, 3) := by decide +kernel
theorem dX1_mayMark_27 : decode cX1_mayMark 27 = .ok (.iload_n 3, 1) := by decide +kernel
theorem dX1_mayMark_28 : decode cX1_mayMark 28 = .ok (.iaload, 1) := by decide +kernel
theorem dX1_mayMark_29 : decode cX1_mayMark 29 = .ok (.iload 4, 2) := by decide +kernel
theorem dX1_mayMark_31 : decode cX1_mayMark 31 = .ok (.invokestatic 122, 3) := by decide +kernel
theorem dX1_mayMark_34 : decode cX1_mayMark 34 = .ok (.ifCond .eq 43, 3) := by decide +kernel
theorem dX1_mayMark_37 : decode cX1_mayMark 37 = .ok (.aload_n 0, 1) := by decide +kernel
theorem dX1_mayMark_38 : decode cX1_mayMark 38 = .ok (.getfield 27, 3) := by decide +kernel
theorem dX1_mayMark_41 : decode cX1_mayMark 41 = .ok (.iload_n 3, 1) := by decide +kernel
theorem dX1_mayMark_42 : decode cX1_mayMark 42 = .ok (.iaload, 1) := by decide +kernel
theorem dX1_mayMark_43 : decode cX1_mayMark 43 = .ok (.iload 4, 2) := by decide +kernel
theorem dX1_mayMark_45 : decode cX1_mayMark 45 = .ok (.invokestatic 122, 3) := by decide +kernel
theorem dX1_mayMark_48 : decode cX1_mayMark 48 = .ok (.ifCond .ne 29, 3) := by decide +kernel
theorem dX1_mayMark_51 : decode cX1_mayMark 51 = .ok (.aload_n 0, 1) := by decide +kernel
theorem dX1_mayMark_52 : decode cX1_mayMark 52 = .ok (.getfield 15, 3) := by decide +kernel
theorem dX1_mayMark_55 : decode cX1_mayMark 55 = .ok (.iload_n 2, 1) := by decide +kernel
theorem dX1_mayMark_56 : decode cX1_mayMark 56 = .ok (.iaload, 1) := by decide +kernel
theorem dX1_mayMark_57 : decode cX1_mayMark 57 = .ok (.sipush 299, 3) := by decide +kernel
theorem dX1_mayMark_60 : decode cX1_mayMark 60 = .ok (.if_icmp .ge 17, 3) := by decide +kernel
theorem dX1_mayMark_63 : decode cX1_mayMark 63 = .ok (.aload_n 0, 1) := by decide +kernel
theorem dX1_mayMark_64 : decode cX1_mayMark 64 = .ok (.aload_n 1, 1) := by decide +kernel
theorem dX1_mayMark_65 : decode cX1_mayMark 65 = .ok (.iload_n 2, 1) := by decide +kernel
theorem dX1_mayMark_66 : decode cX1_mayMark 66 = .ok (.iload_n 3, 1) := by decide +kernel
theorem dX1_mayMark_67 : decode cX1_mayMark 67 = .ok (.invokevirtual 125, 3) := by decide +kernel
theorem dX1_mayMark_70 : decode cX1_mayMark 70 = .ok (.ifCond .eq 7, 3) := by decide +kernel
theorem dX1_mayMark_73 : decode cX1_mayMark 73 = .ok (.iconst 1, 1) := by decide +kernel
theorem dX1_mayMark_74 : decode cX1_mayMark 74 = .ok (.goto 4, 3) := by decide +kernel
theorem dX1_mayMark_77 : decode cX1_mayMark 77 = .ok (.iconst 0, 1) := by decide +kernel
theorem dX1_mayMark_78 : decode cX1_mayMark 78 = .ok (.ireturn, 1) := by decide +kernel
theorem dX1_lawsKept_0 : decode cX1_lawsKept 0 = .ok (.iconst 0, 1) := by decide +kernel
theorem dX1_lawsKept_1 : decode cX1_lawsKept 1 = .ok (.istore 4, 2) := by decide +kernel
theorem dX1_lawsKept_3 : decode cX1_lawsKept 3 = .ok (.iload 4, 2) := by decide +kernel
theorem dX1_lawsKept_5 : decode cX1_lawsKept 5 = .ok (.aload_n 1, 1) := by decide +kernel
theorem dX1_lawsKept_6 : decode cX1_lawsKept 6 = .ok (.getfield 128, 3) := by decide +kernel
theorem dX1_lawsKept_9 : decode cX1_lawsKept 9 = .ok (.if_icmp .ge 97, 3) := by decide +kernel
theorem dX1_lawsKept_12 : decode cX1_lawsKept 12 = .ok (.aload_n 1, 1) := by decide +kernel
theorem dX1_lawsKept_13 : decode cX1_lawsKept 13 = .ok (.getfield 131, 3) := by decide +kernel
theorem dX1_lawsKept_16 : decode cX1_lawsKept 16 = .ok (.iload 4, 2) := by decide +kernel
theorem dX1_lawsKept_18 : decode cX1_lawsKept 18 = .ok (.iaload, 1) := by decide +kernel
theorem dX1_lawsKept_19 : decode cX1_lawsKept 19 = .ok (.istore 5, 2) := by decide +kernel
theorem dX1_lawsKept_21 : decode cX1_lawsKept 21 = .ok (.aload_n 1, 1) := by decide +kernel
theorem dX1_lawsKept_22 : decode cX1_lawsKept 22 = .ok (.getfield 134, 3) := by decide +kernel
theorem dX1_lawsKept_25 : decode cX1_lawsKept 25 = .ok (.iload 4, 2) := by decide +kernel
theorem dX1_lawsKept_27 : decode cX1_lawsKept 27 = .ok (.iaload, 1) := by decide +kernel
theorem dX1_lawsKept_28 : decode cX1_lawsKept 28 = .ok (.aload_n 1, 1) := by decide +kernel
theorem dX1_lawsKept_29 : decode cX1_lawsKept 29 = .ok (.getfield 113, 3) := by decide +kernel
theorem dX1_lawsKept_32 : decode cX1_lawsKept 32 = .ok (.iload_n 2, 1) := by decide +kernel
theorem dX1_lawsKept_33 : decode cX1_lawsKept 33 = .ok (.iaload, 1) := by decide +kernel
theorem dX1_lawsKept_34 : decode cX1_lawsKept 34 = .ok (.if_icmp .ne 66, 3) := by decide +kernel
theorem dX1_lawsKept_37 : decode cX1_lawsKept 37 = .ok (.aload_n 1, 1) := by decide +kernel
theorem dX1_lawsKept_38 : decode cX1_lawsKept 38 = .ok (.getfield 116, 3) := by decide +kernel
theorem dX1_lawsKept_41 : decode cX1_lawsKept 41 = .ok (.iload_n 3, 1) := by decide +kernel
theorem dX1_lawsKept_42 : decode cX1_lawsKept 42 = .ok (.iaload, 1) := by decide +kernel
theorem dX1_lawsKept_43 : decode cX1_lawsKept 43 = .ok (.iload 5, 2) := by decide +kernel
theorem dX1_lawsKept_45 : decode cX1_lawsKept 45 = .ok (.invokestatic 122, 3) := by decide +kernel
theorem dX1_lawsKept_48 : decode cX1_lawsKept 48 = .ok (.ifCond .eq 52, 3) := by decide +kernel
theorem dX1_lawsKept_51 : decode cX1_lawsKept 51 = .ok (.aload_n 0, 1) := by decide +kernel
theorem dX1_lawsKept_52 : decode cX1_lawsKept 52 = .ok (.getfield 27, 3) := by decide +kernel
theorem dX1_lawsKept_55 : decode cX1_lawsKept 55 = .ok (.iload_n 3, 1) := by decide +kernel
theorem dX1_lawsKept_56 : decode cX1_lawsKept 56 = .ok (.iaload, 1) := by decide +kernel
theorem dX1_lawsKept_57 : decode cX1_lawsKept 57 = .ok (.iload 5, 2) := by decide +kernel
theorem dX1_lawsKept_59 : decode cX1_lawsKept 59 = .ok (.invokestatic 122, 3) := by decide +kernel
theorem dX1_lawsKept_62 : decode cX1_lawsKept 62 = .ok (.ifCond .eq 28, 3) := by decide +kernel
theorem dX1_lawsKept_65 : decode cX1_lawsKept 65 = .ok (.aload_n 0, 1) := by decide +kernel
theorem dX1_lawsKept_66 : decode cX1_lawsKept 66 = .ok (.getfield 30, 3) := by decide +kernel
theorem dX1_lawsKept_69 : decode cX1_lawsKept 69 = .ok (.iload_n 3, 1) := by decide +kernel
theorem dX1_lawsKept_70 : decode cX1_lawsKept 70 = .ok (.bipush 6, 2) := by decide +kernel
theorem dX1_lawsKept_72 : decode cX1_lawsKept 72 = .ok (.imul, 1) := by decide +kernel
theorem dX1_lawsKept_73 : decode cX1_lawsKept 73 = .ok (.iload 5, 2) := by decide +kernel
theorem dX1_lawsKept_75 : decode cX1_lawsKept 75 = .ok (.iadd, 1) := by decide +kernel
theorem dX1_lawsKept_76 : decode cX1_lawsKept 76 = .ok (.iaload, 1) := by decide +kernel
theorem dX1_lawsKept_77 : decode cX1_lawsKept 77 = .ok (.aload_n 0, 1) := by decide +kernel
theorem dX1_lawsKept_78 : decode cX1_lawsKept 78 = .ok (.getfield 15, 3) := by decide +kernel
theorem dX1_lawsKept_81 : decode cX1_lawsKept 81 = .ok (.iload_n 2, 1) := by decide +kernel
theorem dX1_lawsKept_82 : decode cX1_lawsKept 82 = .ok (.iaload, 1) := by decide +kernel
theorem dX1_lawsKept_83 : decode cX1_lawsKept 83 = .ok (.if_icmp .gt 7, 3) := by decide +kernel
theorem dX1_lawsKept_86 : decode cX1_lawsKept 86 = .ok (.iconst 1, 1) := by decide +kernel
theorem dX1_lawsKept_87 : decode cX1_lawsKept 87 = .ok (.goto 4, 3) := by decide +kernel
theorem dX1_lawsKept_90 : decode cX1_lawsKept 90 = .ok (.iconst 0, 1) := by decide +kernel
theorem dX1_lawsKept_91 : decode cX1_lawsKept 91 = .ok (.istore 6, 2) := by decide +kernel
theorem dX1_lawsKept_93 : decode cX1_lawsKept 93 = .ok (.iload 6, 2) := by decide +kernel
theorem dX1_lawsKept_95 : decode cX1_lawsKept 95 = .ok (.ifCond .ne 5, 3) := by decide +kernel
theorem dX1_lawsKept_98 : decode cX1_lawsKept 98 = .ok (.iconst 0, 1) := by decide +kernel
theorem dX1_lawsKept_99 : decode cX1_lawsKept 99 = .ok (.ireturn, 1) := by decide +kernel
theorem dX1_lawsKept_100 : decode cX1_lawsKept 100 = .ok (.iinc 4 1, 3) := by decide +kernel
theorem dX1_lawsKept_103 : decode cX1_lawsKept 103 = .ok (.goto (-100), 3) := by decide +kernel
theorem dX1_lawsKept_106 : decode cX1_lawsKept 106 = .ok (.iconst 1, 1) := by decide +kernel
theorem dX1_lawsKept_107 : decode cX1_lawsKept 107 = .ok (.ireturn, 1) := by decide +kernel
theorem dX1_answer_0 : decode cX1_answer 0 = .ok (.iload_n 2, 1) := by decide +kernel
theorem dX1_answer_1 : decode cX1_answer 1 = .ok (.ifCond .ge 6, 3) := by decide +kernel
theorem dX1_answer_4 : decode cX1_answer 4 = .ok (.bipush (-2), 2) := by decide +kernel
theorem dX1_answer_6 : decode cX1_answer 6 = .ok (.ireturn, 1) := by decide +kernel
theorem dX1_answer_7 : decode cX1_answer 7 = .ok (.iload_n 2, 1) := by decide +kernel
theorem dX1_answer_8 : decode cX1_answer 8 = .ok (.bipush 100, 2) := by decide +kernel
theorem dX1_answer_10 : decode cX1_answer 10 = .ok (.if_icmp .lt 20, 3) := by decide +kernel
theorem dX1_answer_13 : decode cX1_answer 13 = .ok (.aload_n 0, 1) := by decide +kernel
theorem dX1_answer_14 : decode cX1_answer 14 = .ok (.aload_n 1, 1) := by decide +kernel
theorem dX1_answer_15 : decode cX1_answer 15 = .ok (.iload_n 2, 1) := by decide +kernel
theorem dX1_answer_16 : decode cX1_answer 16 = .ok (.bipush 100, 2) := by decide +kernel
theorem dX1_answer_18 : decode cX1_answer 18 = .ok (.isub, 1) := by decide +kernel
theorem dX1_answer_19 : decode cX1_answer 19 = .ok (.bipush 10, 2) := by decide +kernel
theorem dX1_answer_21 : decode cX1_answer 21 = .ok (.idiv, 1) := by decide +kernel
theorem dX1_answer_22 : decode cX1_answer 22 = .ok (.iload_n 2, 1) := by decide +kernel
theorem dX1_answer_23 : decode cX1_answer 23 = .ok (.bipush 10, 2) := by decide +kernel
theorem dX1_answer_25 : decode cX1_answer 25 = .ok (.irem, 1) := by decide +kernel
theorem dX1_answer_26 : decode cX1_answer 26 = .ok (.invokevirtual 137, 3) := by decide +kernel
theorem dX1_answer_29 : decode cX1_answer 29 = .ok (.ireturn, 1) := by decide +kernel
theorem dX1_answer_30 : decode cX1_answer 30 = .ok (.iload_n 2, 1) := by decide +kernel
theorem dX1_answer_31 : decode cX1_answer 31 = .ok (.bipush 10, 2) := by decide +kernel
theorem dX1_answer_33 : decode cX1_answer 33 = .ok (.irem, 1) := by decide +kernel
theorem dX1_answer_34 : decode cX1_answer 34 = .ok (.istore_n 3, 1) := by decide +kernel
theorem dX1_answer_35 : decode cX1_answer 35 = .ok (.iload_n 2, 1) := by decide +kernel
theorem dX1_answer_36 : decode cX1_answer 36 = .ok (.bipush 10, 2) := by decide +kernel
theorem dX1_answer_38 : decode cX1_answer 38 = .ok (.idiv, 1) := by decide +kernel
theorem dX1_answer_39 : decode cX1_answer 39 = .ok (.tableswitch 120 0 4 #[33, 40, 60, 80, 100], 33) := by decide +kernel
theorem dX1_answer_72 : decode cX1_answer 72 = .ok (.aload_n 0, 1) := by decide +kernel
theorem dX1_answer_73 : decode cX1_answer 73 = .ok (.aload_n 1, 1) := by decide +kernel
theorem dX1_answer_74 : decode cX1_answer 74 = .ok (.iload_n 3, 1) := by decide +kernel
theorem dX1_answer_75 : decode cX1_answer 75 = .ok (.invokevirtual 141, 3) := by decide +kernel
theorem dX1_answer_78 : decode cX1_answer 78 = .ok (.ireturn, 1) := by decide +kernel
theorem dX1_answer_79 : decode cX1_answer 79 = .ok (.iload_n 3, 1) := by decide +kernel
theorem dX1_answer_80 : decode cX1_answer 80 = .ok (.aload_n 1, 1) := by decide +kernel
theorem dX1_answer_81 : decode cX1_answer 81 = .ok (.getfield 77, 3) := by decide +kernel
theorem dX1_answer_84 : decode cX1_answer 84 = .ok (.if_icmp .ge 12, 3) := by decide +kernel
theorem dX1_answer_87 : decode cX1_answer 87 = .ok (.aload_n 0, 1) := by decide +kernel
theorem dX1_answer_88 : decode cX1_answer 88 = .ok (.getfield 9, 3) := by decide +kernel
theorem dX1_answer_91 : decode cX1_answer 91 = .ok (.iload_n 3, 1) := by decide +kernel
theorem dX1_answer_92 : decode cX1_answer 92 = .ok (.iaload, 1) := by decide +kernel
theorem dX1_answer_93 : decode cX1_answer 93 = .ok (.goto 5, 3) := by decide +kernel
theorem dX1_answer_96 : decode cX1_answer 96 = .ok (.bipush (-2), 2) := by decide +kernel
theorem dX1_answer_98 : decode cX1_answer 98 = .ok (.ireturn, 1) := by decide +kernel
theorem dX1_answer_99 : decode cX1_answer 99 = .ok (.iload_n 3, 1) := by decide +kernel
theorem dX1_answer_100 : decode cX1_answer 100 = .ok (.aload_n 1, 1) := by decide +kernel
theorem dX1_answer_101 : decode cX1_answer 101 = .ok (.getfield 77, 3) := by decide +kernel
theorem dX1_answer_104 : decode cX1_answer 104 = .ok (.if_icmp .ge 12, 3) := by decide +kernel
theorem dX1_answer_107 : decode cX1_answer 107 = .ok (.aload_n 0, 1) := by decide +kernel
theorem dX1_answer_108 : decode cX1_answer 108 = .ok (.getfield 15, 3) := by decide +kernel
theorem dX1_answer_111 : decode cX1_answer 111 = .ok (.iload_n 3, 1) := by decide +kernel
theorem dX1_answer_112 : decode cX1_answer 112 = .ok (.iaload, 1) := by decide +kernel
theorem dX1_answer_113 : decode cX1_answer 113 = .ok (.goto 5, 3) := by decide +kernel
theorem dX1_answer_116 : decode cX1_answer 116 = .ok (.bipush (-2), 2) := by decide +kernel
theorem dX1_answer_118 : decode cX1_answer 118 = .ok (.ireturn, 1) := by decide +kernel
theorem dX1_answer_119 : decode cX1_answer 119 = .ok (.iload_n 3, 1) := by decide +kernel
theorem dX1_answer_120 : decode cX1_answer 120 = .ok (.aload_n 1, 1) := by decide +kernel
theorem dX1_answer_121 : decode cX1_answer 121 = .ok (.getfield 77, 3) := by decide +kernel
theorem dX1_answer_124 : decode cX1_answer 124 = .ok (.if_icmp .ge 12, 3) := by decide +kernel
theorem dX1_answer_127 : decode cX1_answer 127 = .ok (.aload_n 0, 1) := by decide +kernel
theorem dX1_answer_128 : decode cX1_answer 128 = .ok (.getfield 18, 3) := by decide +kernel
theorem dX1_answer_131 : decode cX1_answer 131 = .ok (.iload_n 3, 1) := by decide +kernel
theorem dX1_answer_132 : decode cX1_answer 132 = .ok (.iaload, 1) := by decide +kernel
theorem dX1_answer_133 : decode cX1_answer 133 = .ok (.goto 5, 3) := by decide +kernel
theorem dX1_answer_136 : decode cX1_answer 136 = .ok (.bipush (-2), 2) := by decide +kernel
theorem dX1_answer_138 : decode cX1_answer 138 = .ok (.ireturn, 1) := by decide +kernel
theorem dX1_answer_139 : decode cX1_answer 139 = .ok (.iload_n 3, 1) := by decide +kernel
theorem dX1_answer_140 : decode cX1_answer 140 = .ok (.aload_n 1, 1) := by decide +kernel
theorem dX1_answer_141 : decode cX1_answer 141 = .ok (.getfield 83, 3) := by decide +kernel
theorem dX1_answer_144 : decode cX1_answer 144 = .ok (.if_icmp .ge 12, 3) := by decide +kernel
theorem dX1_answer_147 : decode cX1_answer 147 = .ok (.aload_n 0, 1) := by decide +kernel
theorem dX1_answer_148 : decode cX1_answer 148 = .ok (.getfield 27, 3) := by decide +kernel
theorem dX1_answer_151 : decode cX1_answer 151 = .ok (.iload_n 3, 1) := by decide +kernel
theorem dX1_answer_152 : decode cX1_answer 152 = .ok (.iaload, 1) := by decide +kernel
theorem dX1_answer_153 : decode cX1_answer 153 = .ok (.goto 5, 3) := by decide +kernel
theorem dX1_answer_156 : decode cX1_answer 156 = .ok (.bipush (-2), 2) := by decide +kernel
theorem dX1_answer_158 : decode cX1_answer 158 = .ok (.ireturn, 1) := by decide +kernel
theorem dX1_answer_159 : decode cX1_answer 159 = .ok (.bipush (-2), 2) := by decide +kernel
theorem dX1_answer_161 : decode cX1_answer 161 = .ok (.ireturn, 1) := by decide +kernel
theorem dX1_answerAll_0 : decode cX1_answerAll 0 = .ok (.iload_n 2, 1) := by decide +kernel
theorem dX1_answerAll_1 : decode cX1_answerAll 1 = .ok (.tableswitch 45 0 2 #[27, 33, 39], 27) := by decide +kernel
theorem dX1_answerAll_28 : decode cX1_answerAll 28 = .ok (.aload_n 0, 1) := by decide +kernel
theorem dX1_answerAll_29 : decode cX1_answerAll 29 = .ok (.aload_n 1, 1) := by decide +kernel
theorem dX1_answerAll_30 : decode cX1_answerAll 30 = .ok (.invokevirtual 145, 3) := by decide +kernel
theorem dX1_answerAll_33 : decode cX1_answerAll 33 = .ok (.ireturn, 1) := by decide +kernel
theorem dX1_answerAll_34 : decode cX1_answerAll 34 = .ok (.aload_n 0, 1) := by decide +kernel
theorem dX1_answerAll_35 : decode cX1_answerAll 35 = .ok (.aload_n 1, 1) := by decide +kernel
theorem dX1_answerAll_36 : decode cX1_answerAll 36 = .ok (.invokevirtual 149, 3) := by decide +kernel
theorem dX1_answerAll_39 : decode cX1_answerAll 39 = .ok (.ireturn, 1) := by decide +kernel
theorem dX1_answerAll_40 : decode cX1_answerAll 40 = .ok (.aload_n 0, 1) := by decide +kernel
theorem dX1_answerAll_41 : decode cX1_answerAll 41 = .ok (.aload_n 1, 1) := by decide +kernel
theorem dX1_answerAll_42 : decode cX1_answerAll 42 = .ok (.invokevirtual 152, 3) := by decide +kernel
theorem dX1_answerAll_45 : decode cX1_answerAll 45 = .ok (.ireturn, 1) := by decide +kernel
theorem dX1_answerAll_46 : decode cX1_answerAll 46 = .ok (.bipush (-2), 2) := by decide +kernel
theorem dX1_answerAll_48 : decode cX1_answerAll 48 = .ok (.ireturn, 1) := by decide +kernel
theorem dX1_answerMarkHour_0 : decode cX1_answerMarkHour 0 = .ok (.iload_n 2, 1) := by decide +kernel
theorem dX1_answerMarkHour_1 : decode cX1_answerMarkHour 1 = .ok (.aload_n 1, 1) := by decide +kernel
theorem dX1_answerMarkHour_2 : decode cX1_answerMarkHour 2 = .ok (.getfield 83, 3) := by decide +kernel
theorem dX1_answerMarkHour_5 : decode cX1_answerMarkHour 5 = .ok (.if_icmp .ge 11, 3) := by decide +kernel
theorem dX1_answerMarkHour_8 : decode cX1_answerMarkHour 8 = .ok (.iload_n 3, 1) := by decide +kernel
theorem dX1_answerMarkHour_9 : decode cX1_answerMarkHour 9 = .ok (.aload_n 1, 1) := by decide +kernel
theorem dX1_answerMarkHour_10 : decode cX1_answerMarkHour 10 = .ok (.getfield 155, 3) := by decide +kernel
theorem dX1_answerMarkHour_13 : decode cX1_answerMarkHour 13 = .ok (.if_icmp .lt 6, 3) := by decide +kernel
theorem dX1_answerMarkHour_16 : decode cX1_answerMarkHour 16 = .ok (.bipush (-2), 2) := by decide +kernel
theorem dX1_answerMarkHour_18 : decode cX1_answerMarkHour 18 = .ok (.ireturn, 1) := by decide +kernel
theorem dX1_answerMarkHour_19 : decode cX1_answerMarkHour 19 = .ok (.aload_n 0, 1) := by decide +kernel
theorem dX1_answerMarkHour_20 : decode cX1_answerMarkHour 20 = .ok (.getfield 27, 3) := by decide +kernel
theorem dX1_answerMarkHour_23 : decode cX1_answerMarkHour 23 = .ok (.iload_n 2, 1) := by decide +kernel
theorem dX1_answerMarkHour_24 : decode cX1_answerMarkHour 24 = .ok (.iaload, 1) := by decide +kernel
theorem dX1_answerMarkHour_25 : decode cX1_answerMarkHour 25 = .ok (.iload_n 3, 1) := by decide +kernel
theorem dX1_answerMarkHour_26 : decode cX1_answerMarkHour 26 = .ok (.invokestatic 122, 3) := by decide +kernel
theorem dX1_answerMarkHour_29 : decode cX1_answerMarkHour 29 = .ok (.ifCond .eq 17, 3) := by decide +kernel
theorem dX1_answerMarkHour_32 : decode cX1_answerMarkHour 32 = .ok (.aload_n 0, 1) := by decide +kernel
theorem dX1_answerMarkHour_33 : decode cX1_answerMarkHour 33 = .ok (.getfield 30, 3) := by decide +kernel
theorem dX1_answerMarkHour_36 : decode cX1_answerMarkHour 36 = .ok (.iload_n 2, 1) := by decide +kernel
theorem dX1_answerMarkHour_37 : decode cX1_answerMarkHour 37 = .ok (.bipush 6, 2) := by decide +kernel
theorem dX1_answerMarkHour_39 : decode cX1_answerMarkHour 39 = .ok (.imul, 1) := by decide +kernel
theorem dX1_answerMarkHour_40 : decode cX1_answerMarkHour 40 = .ok (.iload_n 3, 1) := by decide +kernel
theorem dX1_answerMarkHour_41 : decode cX1_answerMarkHour 41 = .ok (.iadd, 1) := by decide +kernel
theorem dX1_answerMarkHour_42 : decode cX1_answerMarkHour 42 = .ok (.iaload, 1) := by decide +kernel
theorem dX1_answerMarkHour_43 : decode cX1_answerMarkHour 43 = .ok (.goto 4, 3) := by decide +kernel
theorem dX1_answerMarkHour_46 : decode cX1_answerMarkHour 46 = .ok (.iconst (-1), 1) := by decide +kernel
theorem dX1_answerMarkHour_47 : decode cX1_answerMarkHour 47 = .ok (.ireturn, 1) := by decide +kernel
theorem dX1_howManyMarks_0 : decode cX1_howManyMarks 0 = .ok (.iconst 0, 1) := by decide +kernel
theorem dX1_howManyMarks_1 : decode cX1_howManyMarks 1 = .ok (.istore_n 2, 1) := by decide +kernel
theorem dX1_howManyMarks_2 : decode cX1_howManyMarks 2 = .ok (.iconst 0, 1) := by decide +kernel
theorem dX1_howManyMarks_3 : decode cX1_howManyMarks 3 = .ok (.istore_n 3, 1) := by decide +kernel
theorem dX1_howManyMarks_4 : decode cX1_howManyMarks 4 = .ok (.iload_n 3, 1) := by decide +kernel
theorem dX1_howManyMarks_5 : decode cX1_howManyMarks 5 = .ok (.aload_n 1, 1) := by decide +kernel
theorem dX1_howManyMarks_6 : decode cX1_howManyMarks 6 = .ok (.getfield 83, 3) := by decide +kernel
theorem dX1_howManyMarks_9 : decode cX1_howManyMarks 9 = .ok (.if_icmp .ge 21, 3) := by decide +kernel
theorem dX1_howManyMarks_12 : decode cX1_howManyMarks 12 = .ok (.iload_n 2, 1) := by decide +kernel
theorem dX1_howManyMarks_13 : decode cX1_howManyMarks 13 = .ok (.aload_n 0, 1) := by decide +kernel
theorem dX1_howManyMarks_14 : decode cX1_howManyMarks 14 = .ok (.getfield 27, 3) := by decide +kernel
theorem dX1_howManyMarks_17 : decode cX1_howManyMarks 17 = .ok (.iload_n 3, 1) := by decide +kernel
theorem dX1_howManyMarks_18 : decode cX1_howManyMarks 18 = .ok (.iaload, 1) := by decide +kernel
theorem dX1_howManyMarks_19 : decode cX1_howManyMarks 19 = .ok (.invokestatic 158, 3) := by decide +kernel
theorem dX1_howManyMarks_22 : decode cX1_howManyMarks 22 = .ok (.iadd, 1) := by decide +kernel
theorem dX1_howManyMarks_23 : decode cX1_howManyMarks 23 = .ok (.istore_n 2, 1) := by decide +kernel
theorem dX1_howManyMarks_24 : decode cX1_howManyMarks 24 = .ok (.iinc 3 1, 3) := by decide +kernel
theorem dX1_howManyMarks_27 : decode cX1_howManyMarks 27 = .ok (.goto (-23), 3) := by decide +kernel
theorem dX1_howManyMarks_30 : decode cX1_howManyMarks 30 = .ok (.iload_n 2, 1) := by decide +kernel
theorem dX1_howManyMarks_31 : decode cX1_howManyMarks 31 = .ok (.ireturn, 1) := by decide +kernel
theorem dX1_donePermits_0 : decode cX1_donePermits 0 = .ok (.iconst 0, 1) := by decide +kernel
theorem dX1_donePermits_1 : decode cX1_donePermits 1 = .ok (.istore_n 2, 1) := by decide +kernel
theorem dX1_donePermits_2 : decode cX1_donePermits 2 = .ok (.iconst 0, 1) := by decide +kernel
theorem dX1_donePermits_3 : decode cX1_donePermits 3 = .ok (.istore_n 3, 1) := by decide +kernel
theorem dX1_donePermits_4 : decode cX1_donePermits 4 = .ok (.iload_n 3, 1) := by decide +kernel
theorem dX1_donePermits_5 : decode cX1_donePermits 5 = .ok (.aload_n 1, 1) := by decide +kernel
theorem dX1_donePermits_6 : decode cX1_donePermits 6 = .ok (.getfield 83, 3) := by decide +kernel
theorem dX1_donePermits_9 : decode cX1_donePermits 9 = .ok (.if_icmp .ge 30, 3) := by decide +kernel
theorem dX1_donePermits_12 : decode cX1_donePermits 12 = .ok (.aload_n 0, 1) := by decide +kernel
theorem dX1_donePermits_13 : decode cX1_donePermits 13 = .ok (.getfield 27, 3) := by decide +kernel
theorem dX1_donePermits_16 : decode cX1_donePermits 16 = .ok (.iload_n 3, 1) := by decide +kernel
theorem dX1_donePermits_17 : decode cX1_donePermits 17 = .ok (.iaload, 1) := by decide +kernel
theorem dX1_donePermits_18 : decode cX1_donePermits 18 = .ok (.aload_n 1, 1) := by decide +kernel
theorem dX1_donePermits_19 : decode cX1_donePermits 19 = .ok (.getfield 116, 3) := by decide +kernel
theorem dX1_donePermits_22 : decode cX1_donePermits 22 = .ok (.iload_n 3, 1) := by decide +kernel
theorem dX1_donePermits_23 : decode cX1_donePermits 23 = .ok (.iaload, 1) := by decide +kernel
theorem dX1_donePermits_24 : decode cX1_donePermits 24 = .ok (.if_icmp .ne 9, 3) := by decide +kernel
theorem dX1_donePermits_27 : decode cX1_donePermits 27 = .ok (.iload_n 2, 1) := by decide +kernel
theorem dX1_donePermits_28 : decode cX1_donePermits 28 = .ok (.iconst 1, 1) := by decide +kernel
theorem dX1_donePermits_29 : decode cX1_donePermits 29 = .ok (.iload_n 3, 1) := by decide +kernel
theorem dX1_donePermits_30 : decode cX1_donePermits 30 = .ok (.ishl, 1) := by decide +kernel
theorem dX1_donePermits_31 : decode cX1_donePermits 31 = .ok (.ior, 1) := by decide +kernel
theorem dX1_donePermits_32 : decode cX1_donePermits 32 = .ok (.istore_n 2, 1) := by decide +kernel
theorem dX1_donePermits_33 : decode cX1_donePermits 33 = .ok (.iinc 3 1, 3) := by decide +kernel
theorem dX1_donePermits_36 : decode cX1_donePermits 36 = .ok (.goto (-32), 3) := by decide +kernel
theorem dX1_donePermits_39 : decode cX1_donePermits 39 = .ok (.iload_n 2, 1) := by decide +kernel
theorem dX1_donePermits_40 : decode cX1_donePermits 40 = .ok (.ireturn, 1) := by decide +kernel
theorem dX1_latestClerk_0 : decode cX1_latestClerk 0 = .ok (.iconst 0, 1) := by decide +kernel
theorem dX1_latestClerk_1 : decode cX1_latestClerk 1 = .ok (.istore_n 2, 1) := by decide +kernel
theorem dX1_latestClerk_2 : decode cX1_latestClerk 2 = .ok (.iconst 0, 1) := by decide +kernel
theorem dX1_latestClerk_3 : decode cX1_latestClerk 3 = .ok (.istore_n 3, 1) := by decide +kernel
theorem dX1_latestClerk_4 : decode cX1_latestClerk 4 = .ok (.iload_n 3, 1) := by decide +kernel
theorem dX1_latestClerk_5 : decode cX1_latestClerk 5 = .ok (.aload_n 1, 1) := by decide +kernel
theorem dX1_latestClerk_6 : decode cX1_latestClerk 6 = .ok (.getfield 77, 3) := by decide +kernel
theorem dX1_latestClerk_9 : decode cX1_latestClerk 9 = .ok (.if_icmp .ge 20, 3) := by decide +kernel
theorem dX1_latestClerk_12 : decode cX1_latestClerk 12 = .ok (.iload_n 2, 1) := by decide +kernel
theorem dX1_latestClerk_13 : decode cX1_latestClerk 13 = .ok (.aload_n 0, 1) := by decide +kernel
theorem dX1_latestClerk_14 : decode cX1_latestClerk 14 = .ok (.getfield 15, 3) := by decide +kernel
theorem dX1_latestClerk_17 : decode cX1_latestClerk 17 = .ok (.iload_n 3, 1) := by decide +kernel
theorem dX1_latestClerk_18 : decode cX1_latestClerk 18 = .ok (.iaload, 1) := by decide +kernel
theorem dX1_latestClerk_19 : decode cX1_latestClerk 19 = .ok (.invokestatic 163, 3) := by decide +kernel
theorem dX1_latestClerk_22 : decode cX1_latestClerk 22 = .ok (.istore_n 2, 1) := by decide +kernel
theorem dX1_latestClerk_23 : decode cX1_latestClerk 23 = .ok (.iinc 3 1, 3) := by decide +kernel
theorem dX1_latestClerk_26 : decode cX1_latestClerk 26 = .ok (.goto (-22), 3) := by decide +kernel
theorem dX1_latestClerk_29 : decode cX1_latestClerk 29 = .ok (.iload_n 2, 1) := by decide +kernel
theorem dX1_latestClerk_30 : decode cX1_latestClerk 30 = .ok (.ireturn, 1) := by decide +kernel
theorem dX1_answerAfter_0 : decode cX1_answerAfter 0 = .ok (.iload_n 2, 1) := by decide +kernel
theorem dX1_answerAfter_1 : decode cX1_answerAfter 1 = .ok (.ifCond .ne 8, 3) := by decide +kernel
theorem dX1_answerAfter_4 : decode cX1_answerAfter 4 = .ok (.aload_n 0, 1) := by decide +kernel
theorem dX1_answerAfter_5 : decode cX1_answerAfter 5 = .ok (.getfield 41, 3) := by decide +kernel
theorem dX1_answerAfter_8 : decode cX1_answerAfter 8 = .ok (.ireturn, 1) := by decide +kernel
theorem dX1_answerAfter_9 : decode cX1_answerAfter 9 = .ok (.iload_n 2, 1) := by decide +kernel
theorem dX1_answerAfter_10 : decode cX1_answerAfter 10 = .ok (.bipush 10, 2) := by decide +kernel
theorem dX1_answerAfter_12 : decode cX1_answerAfter 12 = .ok (.irem, 1) := by decide +kernel
theorem dX1_answerAfter_13 : decode cX1_answerAfter 13 = .ok (.istore_n 3, 1) := by decide +kernel
theorem dX1_answerAfter_14 : decode cX1_answerAfter 14 = .ok (.iload_n 2, 1) := by decide +kernel
theorem dX1_answerAfter_15 : decode cX1_answerAfter 15 = .ok (.bipush 10, 2) := by decide +kernel
theorem dX1_answerAfter_17 : decode cX1_answerAfter 17 = .ok (.if_icmp .lt 11, 3) := by decide +kernel
theorem dX1_answerAfter_20 : decode cX1_answerAfter 20 = .ok (.iload_n 3, 1) := by decide +kernel
theorem dX1_answerAfter_21 : decode cX1_answerAfter 21 = .ok (.aload_n 1, 1) := by decide +kernel
theorem dX1_answerAfter_22 : decode cX1_answerAfter 22 = .ok (.getfield 77, 3) := by decide +kernel
theorem dX1_answerAfter_25 : decode cX1_answerAfter 25 = .ok (.if_icmp .lt 6, 3) := by decide +kernel
theorem dX1_answerAfter_28 : decode cX1_answerAfter 28 = .ok (.bipush (-2), 2) := by decide +kernel
theorem dX1_answerAfter_30 : decode cX1_answerAfter 30 = .ok (.ireturn, 1) := by decide +kernel
theorem dX1_answerAfter_31 : decode cX1_answerAfter 31 = .ok (.iload_n 2, 1) := by decide +kernel
theorem dX1_answerAfter_32 : decode cX1_answerAfter 32 = .ok (.bipush 10, 2) := by decide +kernel
theorem dX1_answerAfter_34 : decode cX1_answerAfter 34 = .ok (.idiv, 1) := by decide +kernel
theorem dX1_answerAfter_35 : decode cX1_answerAfter 35 = .ok (.tableswitch 46 1 3 #[25, 32, 39], 25) := by decide +kernel
theorem dX1_answerAfter_60 : decode cX1_answerAfter 60 = .ok (.aload_n 0, 1) := by decide +kernel
theorem dX1_answerAfter_61 : decode cX1_answerAfter 61 = .ok (.aload_n 1, 1) := by decide +kernel
theorem dX1_answerAfter_62 : decode cX1_answerAfter 62 = .ok (.iload_n 3, 1) := by decide +kernel
theorem dX1_answerAfter_63 : decode cX1_answerAfter 63 = .ok (.invokevirtual 166, 3) := by decide +kernel
theorem dX1_answerAfter_66 : decode cX1_answerAfter 66 = .ok (.ireturn, 1) := by decide +kernel
theorem dX1_answerAfter_67 : decode cX1_answerAfter 67 = .ok (.aload_n 0, 1) := by decide +kernel
theorem dX1_answerAfter_68 : decode cX1_answerAfter 68 = .ok (.getfield 21, 3) := by decide +kernel
theorem dX1_answerAfter_71 : decode cX1_answerAfter 71 = .ok (.iload_n 3, 1) := by decide +kernel
theorem dX1_answerAfter_72 : decode cX1_answerAfter 72 = .ok (.iaload, 1) := by decide +kernel
theorem dX1_answerAfter_73 : decode cX1_answerAfter 73 = .ok (.ireturn, 1) := by decide +kernel
theorem dX1_answerAfter_74 : decode cX1_answerAfter 74 = .ok (.aload_n 0, 1) := by decide +kernel
theorem dX1_answerAfter_75 : decode cX1_answerAfter 75 = .ok (.getfield 24, 3) := by decide +kernel
theorem dX1_answerAfter_78 : decode cX1_answerAfter 78 = .ok (.iload_n 3, 1) := by decide +kernel
theorem dX1_answerAfter_79 : decode cX1_answerAfter 79 = .ok (.iaload, 1) := by decide +kernel
theorem dX1_answerAfter_80 : decode cX1_answerAfter 80 = .ok (.ireturn, 1) := by decide +kernel
theorem dX1_answerAfter_81 : decode cX1_answerAfter 81 = .ok (.bipush (-2), 2) := by decide +kernel
theorem dX1_answerAfter_83 : decode cX1_answerAfter 83 = .ok (.ireturn, 1) := by decide +kernel
theorem dX1_openPermits_0 : decode cX1_openPermits 0 = .ok (.iconst 0, 1) := by decide +kernel
theorem dX1_openPermits_1 : decode cX1_openPermits 1 = .ok (.istore_n 3, 1) := by decide +kernel
theorem dX1_openPermits_2 : decode cX1_openPermits 2 = .ok (.iconst 0, 1) := by decide +kernel
theorem dX1_openPermits_3 : decode cX1_openPermits 3 = .ok (.istore 4, 2) := by decide +kernel
theorem dX1_openPermits_5 : decode cX1_openPermits 5 = .ok (.iload 4, 2) := by decide +kernel
theorem dX1_openPermits_7 : decode cX1_openPermits 7 = .ok (.aload_n 1, 1) := by decide +kernel
theorem dX1_openPermits_8 : decode cX1_openPermits 8 = .ok (.getfield 83, 3) := by decide +kernel
theorem dX1_openPermits_11 : decode cX1_openPermits 11 = .ok (.if_icmp .ge 27, 3) := by decide +kernel
theorem dX1_openPermits_14 : decode cX1_openPermits 14 = .ok (.aload_n 0, 1) := by decide +kernel
theorem dX1_openPermits_15 : decode cX1_openPermits 15 = .ok (.aload_n 1, 1) := by decide +kernel
theorem dX1_openPermits_16 : decode cX1_openPermits 16 = .ok (.iload_n 2, 1) := by decide +kernel
theorem dX1_openPermits_17 : decode cX1_openPermits 17 = .ok (.iload 4, 2) := by decide +kernel
theorem dX1_openPermits_19 : decode cX1_openPermits 19 = .ok (.invokevirtual 110, 3) := by decide +kernel
theorem dX1_openPermits_22 : decode cX1_openPermits 22 = .ok (.ifCond .eq 10, 3) := by decide +kernel
theorem dX1_openPermits_25 : decode cX1_openPermits 25 = .ok (.iload_n 3, 1) := by decide +kernel
theorem dX1_openPermits_26 : decode cX1_openPermits 26 = .ok (.iconst 1, 1) := by decide +kernel
theorem dX1_openPermits_27 : decode cX1_openPermits 27 = .ok (.iload 4, 2) := by decide +kernel
theorem dX1_openPermits_29 : decode cX1_openPermits 29 = .ok (.ishl, 1) := by decide +kernel
theorem dX1_openPermits_30 : decode cX1_openPermits 30 = .ok (.ior, 1) := by decide +kernel
theorem dX1_openPermits_31 : decode cX1_openPermits 31 = .ok (.istore_n 3, 1) := by decide +kernel
theorem dX1_openPermits_32 : decode cX1_openPermits 32 = .ok (.iinc 4 1, 3) := by decide +kernel
theorem dX1_openPermits_35 : decode cX1_openPermits 35 = .ok (.goto (-30), 3) := by decide +kernel
theorem dX1_openPermits_38 : decode cX1_openPermits 38 = .ok (.iload_n 3, 1) := by decide +kernel
theorem dX1_openPermits_39 : decode cX1_openPermits 39 = .ok (.ireturn, 1) := by decide +kernel
theorem dX2_init_0 : decode cX2_init 0 = .ok (.aload_n 0, 1) := by decide +kernel
theorem dX2_init_1 : decode cX2_init 1 = .ok (.invokespecial 3, 3) := by decide +kernel
theorem dX2_init_4 : decode cX2_init 4 = .ok (.aload_n 0, 1) := by decide +kernel
theorem dX2_init_5 : decode cX2_init 5 = .ok (.new 9, 3) := by decide +kernel
theorem dX2_init_8 : decode cX2_init 8 = .ok (.dup, 1) := by decide +kernel
theorem dX2_init_9 : decode cX2_init 9 = .ok (.invokespecial 11, 3) := by decide +kernel
theorem dX2_init_12 : decode cX2_init 12 = .ok (.putfield 12, 3) := by decide +kernel
theorem dX2_init_15 : decode cX2_init 15 = .ok (.aload_n 0, 1) := by decide +kernel
theorem dX2_init_16 : decode cX2_init 16 = .ok (.bipush 64, 2) := by decide +kernel
theorem dX2_init_18 : decode cX2_init 18 = .ok (.newarray .int, 2) := by decide +kernel
theorem dX2_init_20 : decode cX2_init 20 = .ok (.putfield 18, 3) := by decide +kernel
theorem dX2_init_23 : decode cX2_init 23 = .ok (.return_, 1) := by decide +kernel
theorem dX2_before_0 : decode cX2_before 0 = .ok (.iconst 0, 1) := by decide +kernel
theorem dX2_before_1 : decode cX2_before 1 = .ok (.istore_n 3, 1) := by decide +kernel
theorem dX2_before_2 : decode cX2_before 2 = .ok (.iconst 0, 1) := by decide +kernel
theorem dX2_before_3 : decode cX2_before 3 = .ok (.istore 4, 2) := by decide +kernel
theorem dX2_before_5 : decode cX2_before 5 = .ok (.iload 4, 2) := by decide +kernel
theorem dX2_before_7 : decode cX2_before 7 = .ok (.aload_n 0, 1) := by decide +kernel
theorem dX2_before_8 : decode cX2_before 8 = .ok (.getfield 22, 3) := by decide +kernel
theorem dX2_before_11 : decode cX2_before 11 = .ok (.if_icmp .ge 32, 3) := by decide +kernel
theorem dX2_before_14 : decode cX2_before 14 = .ok (.aload_n 0, 1) := by decide +kernel
theorem dX2_before_15 : decode cX2_before 15 = .ok (.getfield 28, 3) := by decide +kernel
theorem dX2_before_18 : decode cX2_before 18 = .ok (.iload 4, 2) := by decide +kernel
theorem dX2_before_20 : decode cX2_before 20 = .ok (.iaload, 1) := by decide +kernel
theorem dX2_before_21 : decode cX2_before 21 = .ok (.iload_n 2, 1) := by decide +kernel
theorem dX2_before_22 : decode cX2_before 22 = .ok (.if_icmp .ne 15, 3) := by decide +kernel
theorem dX2_before_25 : decode cX2_before 25 = .ok (.iload_n 3, 1) := by decide +kernel
theorem dX2_before_26 : decode cX2_before 26 = .ok (.iconst 1, 1) := by decide +kernel
theorem dX2_before_27 : decode cX2_before 27 = .ok (.aload_n 0, 1) := by decide +kernel
theorem dX2_before_28 : decode cX2_before 28 = .ok (.getfield 31, 3) := by decide +kernel
theorem dX2_before_31 : decode cX2_before 31 = .ok (.iload 4, 2) := by decide +kernel
theorem dX2_before_33 : decode cX2_before 33 = .ok (.iaload, 1) := by decide +kernel
theorem dX2_before_34 : decode cX2_before 34 = .ok (.ishl, 1) := by decide +kernel
theorem dX2_before_35 : decode cX2_before 35 = .ok (.ior, 1) := by decide +kernel
theorem dX2_before_36 : decode cX2_before 36 = .ok (.istore_n 3, 1) := by decide +kernel
theorem dX2_before_37 : decode cX2_before 37 = .ok (.iinc 4 1, 3) := by decide +kernel
theorem dX2_before_40 : decode cX2_before 40 = .ok (.goto (-35), 3) := by decide +kernel
theorem dX2_before_43 : decode cX2_before 43 = .ok (.iload_n 3, 1) := by decide +kernel
theorem dX2_before_44 : decode cX2_before 44 = .ok (.iload_n 1, 1) := by decide +kernel
theorem dX2_before_45 : decode cX2_before 45 = .ok (.iand, 1) := by decide +kernel
theorem dX2_before_46 : decode cX2_before 46 = .ok (.ireturn, 1) := by decide +kernel
theorem dX2_nextMark_0 : decode cX2_nextMark 0 = .ok (.iconst 0, 1) := by decide +kernel
theorem dX2_nextMark_1 : decode cX2_nextMark 1 = .ok (.istore_n 3, 1) := by decide +kernel
theorem dX2_nextMark_2 : decode cX2_nextMark 2 = .ok (.iload_n 3, 1) := by decide +kernel
theorem dX2_nextMark_3 : decode cX2_nextMark 3 = .ok (.aload_n 0, 1) := by decide +kernel
theorem dX2_nextMark_4 : decode cX2_nextMark 4 = .ok (.getfield 34, 3) := by decide +kernel
theorem dX2_nextMark_7 : decode cX2_nextMark 7 = .ok (.if_icmp .ge 36, 3) := by decide +kernel
theorem dX2_nextMark_10 : decode cX2_nextMark 10 = .ok (.iload_n 1, 1) := by decide +kernel
theorem dX2_nextMark_11 : decode cX2_nextMark 11 = .ok (.iload_n 2, 1) := by decide +kernel
theorem dX2_nextMark_12 : decode cX2_nextMark 12 = .ok (.iconst (-1), 1) := by decide +kernel
theorem dX2_nextMark_13 : decode cX2_nextMark 13 = .ok (.ixor, 1) := by decide +kernel
theorem dX2_nextMark_14 : decode cX2_nextMark 14 = .ok (.iand, 1) := by decide +kernel
theorem dX2_nextMark_15 : decode cX2_nextMark 15 = .ok (.iload_n 3, 1) := by decide +kernel
theorem dX2_nextMark_16 : decode cX2_nextMark 16 = .ok (.invokestatic 37, 3) := by decide +kernel
theorem dX2_nextMark_19 : decode cX2_nextMark 19 = .ok (.ifCond .eq 18, 3) := by decide +kernel
theorem dX2_nextMark_22 : decode cX2_nextMark 22 = .ok (.aload_n 0, 1) := by decide +kernel
theorem dX2_nextMark_23 : decode cX2_nextMark 23 = .ok (.iload_n 1, 1) := by decide +kernel
theorem dX2_nextMark_24 : decode cX2_nextMark 24 = .ok (.iload_n 3, 1) := by decide +kernel
theorem dX2_nextMark_25 : decode cX2_nextMark 25 = .ok (.invokestatic 41, 3) := by decide +kernel
theorem dX2_nextMark_28 : decode cX2_nextMark 28 = .ok (.iload_n 2, 1) := by decide +kernel
theorem dX2_nextMark_29 : decode cX2_nextMark 29 = .ok (.iconst (-1), 1) := by decide +kernel
theorem dX2_nextMark_30 : decode cX2_nextMark 30 = .ok (.ixor, 1) := by decide +kernel
theorem dX2_nextMark_31 : decode cX2_nextMark 31 = .ok (.iand, 1) := by decide +kernel
theorem dX2_nextMark_32 : decode cX2_nextMark 32 = .ok (.ifCond .ne 5, 3) := by decide +kernel
theorem dX2_nextMark_35 : decode cX2_nextMark 35 = .ok (.iload_n 3, 1) := by decide +kernel
theorem dX2_nextMark_36 : decode cX2_nextMark 36 = .ok (.ireturn, 1) := by decide +kernel
theorem dX2_nextMark_37 : decode cX2_nextMark 37 = .ok (.iinc 3 1, 3) := by decide +kernel
theorem dX2_nextMark_40 : decode cX2_nextMark 40 = .ok (.goto (-38), 3) := by decide +kernel
theorem dX2_nextMark_43 : decode cX2_nextMark 43 = .ok (.iconst (-1), 1) := by decide +kernel
theorem dX2_nextMark_44 : decode cX2_nextMark 44 = .ok (.ireturn, 1) := by decide +kernel
theorem dX2_orderly_0 : decode cX2_orderly 0 = .ok (.iconst 0, 1) := by decide +kernel
theorem dX2_orderly_1 : decode cX2_orderly 1 = .ok (.istore_n 2, 1) := by decide +kernel
theorem dX2_orderly_2 : decode cX2_orderly 2 = .ok (.iconst 0, 1) := by decide +kernel
theorem dX2_orderly_3 : decode cX2_orderly 3 = .ok (.istore_n 3, 1) := by decide +kernel
theorem dX2_orderly_4 : decode cX2_orderly 4 = .ok (.iload_n 3, 1) := by decide +kernel
theorem dX2_orderly_5 : decode cX2_orderly 5 = .ok (.bipush 6, 2) := by decide +kernel
theorem dX2_orderly_7 : decode cX2_orderly 7 = .ok (.if_icmp .ge 37, 3) := by decide +kernel
theorem dX2_orderly_10 : decode cX2_orderly 10 = .ok (.iload_n 2, 1) := by decide +kernel
theorem dX2_orderly_11 : decode cX2_orderly 11 = .ok (.iload_n 1, 1) := by decide +kernel
theorem dX2_orderly_12 : decode cX2_orderly 12 = .ok (.if_icmp .eq 32, 3) := by decide +kernel
theorem dX2_orderly_15 : decode cX2_orderly 15 = .ok (.aload_n 0, 1) := by decide +kernel
theorem dX2_orderly_16 : decode cX2_orderly 16 = .ok (.iload_n 1, 1) := by decide +kernel
theorem dX2_orderly_17 : decode cX2_orderly 17 = .ok (.iload_n 2, 1) := by decide +kernel
theorem dX2_orderly_18 : decode cX2_orderly 18 = .ok (.invokestatic 45, 3) := by decide +kernel
theorem dX2_orderly_21 : decode cX2_orderly 21 = .ok (.istore 4, 2) := by decide +kernel
theorem dX2_orderly_23 : decode cX2_orderly 23 = .ok (.iload 4, 2) := by decide +kernel
theorem dX2_orderly_25 : decode cX2_orderly 25 = .ok (.iconst (-1), 1) := by decide +kernel
theorem dX2_orderly_26 : decode cX2_orderly 26 = .ok (.if_icmp .ne 5, 3) := by decide +kernel
theorem dX2_orderly_29 : decode cX2_orderly 29 = .ok (.iconst 0, 1) := by decide +kernel
theorem dX2_orderly_30 : decode cX2_orderly 30 = .ok (.ireturn, 1) := by decide +kernel
theorem dX2_orderly_31 : decode cX2_orderly 31 = .ok (.iload_n 2, 1) := by decide +kernel
theorem dX2_orderly_32 : decode cX2_orderly 32 = .ok (.iconst 1, 1) := by decide +kernel
theorem dX2_orderly_33 : decode cX2_orderly 33 = .ok (.iload 4, 2) := by decide +kernel
theorem dX2_orderly_35 : decode cX2_orderly 35 = .ok (.ishl, 1) := by decide +kernel
theorem dX2_orderly_36 : decode cX2_orderly 36 = .ok (.ior, 1) := by decide +kernel
theorem dX2_orderly_37 : decode cX2_orderly 37 = .ok (.istore_n 2, 1) := by decide +kernel
theorem dX2_orderly_38 : decode cX2_orderly 38 = .ok (.iinc 3 1, 3) := by decide +kernel
theorem dX2_orderly_41 : decode cX2_orderly 41 = .ok (.goto (-37), 3) := by decide +kernel
theorem dX2_orderly_44 : decode cX2_orderly 44 = .ok (.iconst 1, 1) := by decide +kernel
theorem dX2_orderly_45 : decode cX2_orderly 45 = .ok (.ireturn, 1) := by decide +kernel
theorem dX2_howManyOrders_0 : decode cX2_howManyOrders 0 = .ok (.aload_n 1, 1) := by decide +kernel
theorem dX2_howManyOrders_1 : decode cX2_howManyOrders 1 = .ok (.getfield 48, 3) := by decide +kernel
theorem dX2_howManyOrders_4 : decode cX2_howManyOrders 4 = .ok (.iload_n 2, 1) := by decide +kernel
theorem dX2_howManyOrders_5 : decode cX2_howManyOrders 5 = .ok (.iaload, 1) := by decide +kernel
theorem dX2_howManyOrders_6 : decode cX2_howManyOrders 6 = .ok (.istore_n 3, 1) := by decide +kernel
theorem dX2_howManyOrders_7 : decode cX2_howManyOrders 7 = .ok (.iconst 0, 1) := by decide +kernel
theorem dX2_howManyOrders_8 : decode cX2_howManyOrders 8 = .ok (.istore 4, 2) := by decide +kernel
theorem dX2_howManyOrders_10 : decode cX2_howManyOrders 10 = .ok (.iload 4, 2) := by decide +kernel
theorem dX2_howManyOrders_12 : decode cX2_howManyOrders 12 = .ok (.iload_n 3, 1) := by decide +kernel
theorem dX2_howManyOrders_13 : decode cX2_howManyOrders 13 = .ok (.if_icmp .gt 17, 3) := by decide +kernel
theorem dX2_howManyOrders_16 : decode cX2_howManyOrders 16 = .ok (.aload_n 0, 1) := by decide +kernel
theorem dX2_howManyOrders_17 : decode cX2_howManyOrders 17 = .ok (.getfield 18, 3) := by decide +kernel
theorem dX2_howManyOrders_20 : decode cX2_howManyOrders 20 = .ok (.iload 4, 2) := by decide +kernel
theorem dX2_howManyOrders_22 : decode cX2_howManyOrders 22 = .ok (.iconst 0, 1) := by decide +kernel
theorem dX2_howManyOrders_23 : decode cX2_howManyOrders 23 = .ok (.iastore, 1) := by decide +kernel
theorem dX2_howManyOrders_24 : decode cX2_howManyOrders 24 = .ok (.iinc 4 1, 3) := by decide +kernel
theorem dX2_howManyOrders_27 : decode cX2_howManyOrders 27 = .ok (.goto (-17), 3) := by decide +kernel
theorem dX2_howManyOrders_30 : decode cX2_howManyOrders 30 = .ok (.aload_n 0, 1) := by decide +kernel
theorem dX2_howManyOrders_31 : decode cX2_howManyOrders 31 = .ok (.getfield 18, 3) := by decide +kernel
theorem dX2_howManyOrders_34 : decode cX2_howManyOrders 34 = .ok (.iconst 0, 1) := by decide +kernel
theorem dX2_howManyOrders_35 : decode cX2_howManyOrders 35 = .ok (.iconst 1, 1) := by decide +kernel
theorem dX2_howManyOrders_36 : decode cX2_howManyOrders 36 = .ok (.iastore, 1) := by decide +kernel
theorem dX2_howManyOrders_37 : decode cX2_howManyOrders 37 = .ok (.iconst 0, 1) := by decide +kernel
theorem dX2_howManyOrders_38 : decode cX2_howManyOrders 38 = .ok (.istore 4, 2) := by decide +kernel
theorem dX2_howManyOrders_40 : decode cX2_howManyOrders 40 = .ok (.iload 4, 2) := by decide +kernel
theorem dX2_howManyOrders_42 : decode cX2_howManyOrders 42 = .ok (.iload_n 3, 1) := by decide +kernel
theorem dX2_howManyOrders_43 : decode cX2_howManyOrders 43 = .ok (.if_icmp .ge 27, 3) := by decide +kernel
theorem dX2_howManyOrders_46 : decode cX2_howManyOrders 46 = .ok (.aload_n 0, 1) := by decide +kernel
theorem dX2_howManyOrders_47 : decode cX2_howManyOrders 47 = .ok (.getfield 18, 3) := by decide +kernel
theorem dX2_howManyOrders_50 : decode cX2_howManyOrders 50 = .ok (.iload 4, 2) := by decide +kernel
theorem dX2_howManyOrders_52 : decode cX2_howManyOrders 52 = .ok (.iaload, 1) := by decide +kernel
theorem dX2_howManyOrders_53 : decode cX2_howManyOrders 53 = .ok (.ifCond .le 11, 3) := by decide +kernel
theorem dX2_howManyOrders_56 : decode cX2_howManyOrders 56 = .ok (.aload_n 0, 1) := by decide +kernel
theorem dX2_howManyOrders_57 : decode cX2_howManyOrders 57 = .ok (.aload_n 1, 1) := by decide +kernel
theorem dX2_howManyOrders_58 : decode cX2_howManyOrders 58 = .ok (.iload_n 3, 1) := by decide +kernel
theorem dX2_howManyOrders_59 : decode cX2_howManyOrders 59 = .ok (.iload 4, 2) := by decide +kernel
theorem dX2_howManyOrders_61 : decode cX2_howManyOrders 61 = .ok (.invokevirtual 51, 3) := by decide +kernel
theorem dX2_howManyOrders_64 : decode cX2_howManyOrders 64 = .ok (.iinc 4 1, 3) := by decide +kernel
theorem dX2_howManyOrders_67 : decode cX2_howManyOrders 67 = .ok (.goto (-27), 3) := by decide +kernel
theorem dX2_howManyOrders_70 : decode cX2_howManyOrders 70 = .ok (.aload_n 0, 1) := by decide +kernel
theorem dX2_howManyOrders_71 : decode cX2_howManyOrders 71 = .ok (.getfield 18, 3) := by decide +kernel
theorem dX2_howManyOrders_74 : decode cX2_howManyOrders 74 = .ok (.iload_n 3, 1) := by decide +kernel
theorem dX2_howManyOrders_75 : decode cX2_howManyOrders 75 = .ok (.iaload, 1) := by decide +kernel
theorem dX2_howManyOrders_76 : decode cX2_howManyOrders 76 = .ok (.ireturn, 1) := by decide +kernel
theorem dX2_countNextMarks_0 : decode cX2_countNextMarks 0 = .ok (.iconst 0, 1) := by decide +kernel
theorem dX2_countNextMarks_1 : decode cX2_countNextMarks 1 = .ok (.istore 4, 2) := by decide +kernel
theorem dX2_countNextMarks_3 : decode cX2_countNextMarks 3 = .ok (.iload 4, 2) := by decide +kernel
theorem dX2_countNextMarks_5 : decode cX2_countNextMarks 5 = .ok (.aload_n 1, 1) := by decide +kernel
theorem dX2_countNextMarks_6 : decode cX2_countNextMarks 6 = .ok (.getfield 34, 3) := by decide +kernel
theorem dX2_countNextMarks_9 : decode cX2_countNextMarks 9 = .ok (.if_icmp .ge 56, 3) := by decide +kernel
theorem dX2_countNextMarks_12 : decode cX2_countNextMarks 12 = .ok (.iload_n 2, 1) := by decide +kernel
theorem dX2_countNextMarks_13 : decode cX2_countNextMarks 13 = .ok (.iload_n 3, 1) := by decide +kernel
theorem dX2_countNextMarks_14 : decode cX2_countNextMarks 14 = .ok (.iconst (-1), 1) := by decide +kernel
theorem dX2_countNextMarks_15 : decode cX2_countNextMarks 15 = .ok (.ixor, 1) := by decide +kernel
theorem dX2_countNextMarks_16 : decode cX2_countNextMarks 16 = .ok (.iand, 1) := by decide +kernel
theorem dX2_countNextMarks_17 : decode cX2_countNextMarks 17 = .ok (.iload 4, 2) := by decide +kernel
theorem dX2_countNextMarks_19 : decode cX2_countNextMarks 19 = .ok (.invokestatic 37, 3) := by decide +kernel
theorem dX2_countNextMarks_22 : decode cX2_countNextMarks 22 = .ok (.ifCond .eq 37, 3) := by decide +kernel
theorem dX2_countNextMarks_25 : decode cX2_countNextMarks 25 = .ok (.aload_n 1, 1) := by decide +kernel
theorem dX2_countNextMarks_26 : decode cX2_countNextMarks 26 = .ok (.iload_n 2, 1) := by decide +kernel
theorem dX2_countNextMarks_27 : decode cX2_countNextMarks 27 = .ok (.iload 4, 2) := by decide +kernel
theorem dX2_countNextMarks_29 : decode cX2_countNextMarks 29 = .ok (.invokestatic 41, 3) := by decide +kernel
theorem dX2_countNextMarks_32 : decode cX2_countNextMarks 32 = .ok (.iload_n 3, 1) := by decide +kernel
theorem dX2_countNextMarks_33 : decode cX2_countNextMarks 33 = .ok (.iconst (-1), 1) := by decide +kernel
theorem dX2_countNextMarks_34 : decode cX2_countNextMarks 34 = .ok (.ixor, 1) := by decide +kernel
theorem dX2_countNextMarks_35 : decode cX2_countNextMarks 35 = .ok (.iand, 1) := by decide +kernel
theorem dX2_countNextMarks_36 : decode cX2_countNextMarks 36 = .ok (.ifCond .ne 23, 3) := by decide +kernel
theorem dX2_countNextMarks_39 : decode cX2_countNextMarks 39 = .ok (.aload_n 0, 1) := by decide +kernel
theorem dX2_countNextMarks_40 : decode cX2_countNextMarks 40 = .ok (.getfield 18, 3) := by decide +kernel
theorem dX2_countNextMarks_43 : decode cX2_countNextMarks 43 = .ok (.iload_n 3, 1) := by decide +kernel
theorem dX2_countNextMarks_44 : decode cX2_countNextMarks 44 = .ok (.iconst 1, 1) := by decide +kernel
theorem dX2_countNextMarks_45 : decode cX2_countNextMarks 45 = .ok (.iload 4, 2) := by decide +kernel
theorem dX2_countNextMarks_47 : decode cX2_countNextMarks 47 = .ok (.ishl, 1) := by decide +kernel
theorem dX2_countNextMarks_48 : decode cX2_countNextMarks 48 = .ok (.ior, 1) := by decide +kernel
theorem dX2_countNextMarks_49 : decode cX2_countNextMarks 49 = .ok (.dup2, 1) := by decide +kernel
theorem dX2_countNextMarks_50 : decode cX2_countNextMarks 50 = .ok (.iaload, 1) := by decide +kernel
theorem dX2_countNextMarks_51 : decode cX2_countNextMarks 51 = .ok (.aload_n 0, 1) := by decide +kernel
theorem dX2_countNextMarks_52 : decode cX2_countNextMarks 52 = .ok (.getfield 18, 3) := by decide +kernel
theorem dX2_countNextMarks_55 : decode cX2_countNextMarks 55 = .ok (.iload_n 3, 1) := by decide +kernel
theorem dX2_countNextMarks_56 : decode cX2_countNextMarks 56 = .ok (.iaload, 1) := by decide +kernel
theorem dX2_countNextMarks_57 : decode cX2_countNextMarks 57 = .ok (.iadd, 1) := by decide +kernel
theorem dX2_countNextMarks_58 : decode cX2_countNextMarks 58 = .ok (.iastore, 1) := by decide +kernel
theorem dX2_countNextMarks_59 : decode cX2_countNextMarks 59 = .ok (.iinc 4 1, 3) := by decide +kernel
theorem dX2_countNextMarks_62 : decode cX2_countNextMarks 62 = .ok (.goto (-59), 3) := by decide +kernel
theorem dX2_countNextMarks_65 : decode cX2_countNextMarks 65 = .ok (.return_, 1) := by decide +kernel
theorem dX2_firstOrder_0 : decode cX2_firstOrder 0 = .ok (.aload_n 1, 1) := by decide +kernel
theorem dX2_firstOrder_1 : decode cX2_firstOrder 1 = .ok (.getfield 48, 3) := by decide +kernel
theorem dX2_firstOrder_4 : decode cX2_firstOrder 4 = .ok (.iload_n 2, 1) := by decide +kernel
theorem dX2_firstOrder_5 : decode cX2_firstOrder 5 = .ok (.iaload, 1) := by decide +kernel
theorem dX2_firstOrder_6 : decode cX2_firstOrder 6 = .ok (.istore 4, 2) := by decide +kernel
theorem dX2_firstOrder_8 : decode cX2_firstOrder 8 = .ok (.iload_n 3, 1) := by decide +kernel
theorem dX2_firstOrder_9 : decode cX2_firstOrder 9 = .ok (.ifCond .lt 21, 3) := by decide +kernel
theorem dX2_firstOrder_12 : decode cX2_firstOrder 12 = .ok (.iload_n 3, 1) := by decide +kernel
theorem dX2_firstOrder_13 : decode cX2_firstOrder 13 = .ok (.iload 4, 2) := by decide +kernel
theorem dX2_firstOrder_15 : decode cX2_firstOrder 15 = .ok (.invokestatic 55, 3) := by decide +kernel
theorem dX2_firstOrder_18 : decode cX2_firstOrder 18 = .ok (.if_icmp .ge 12, 3) := by decide +kernel
theorem dX2_firstOrder_21 : decode cX2_firstOrder 21 = .ok (.aload_n 1, 1) := by decide +kernel
theorem dX2_firstOrder_22 : decode cX2_firstOrder 22 = .ok (.iload 4, 2) := by decide +kernel
theorem dX2_firstOrder_24 : decode cX2_firstOrder 24 = .ok (.invokestatic 61, 3) := by decide +kernel
theorem dX2_firstOrder_27 : decode cX2_firstOrder 27 = .ok (.ifCond .ne 5, 3) := by decide +kernel
theorem dX2_firstOrder_30 : decode cX2_firstOrder 30 = .ok (.iconst (-1), 1) := by decide +kernel
theorem dX2_firstOrder_31 : decode cX2_firstOrder 31 = .ok (.ireturn, 1) := by decide +kernel
theorem dX2_firstOrder_32 : decode cX2_firstOrder 32 = .ok (.iconst 0, 1) := by decide +kernel
theorem dX2_firstOrder_33 : decode cX2_firstOrder 33 = .ok (.istore 5, 2) := by decide +kernel
theorem dX2_firstOrder_35 : decode cX2_firstOrder 35 = .ok (.iconst (-1), 1) := by decide +kernel
theorem dX2_firstOrder_36 : decode cX2_firstOrder 36 = .ok (.istore 6, 2) := by decide +kernel
theorem dX2_firstOrder_38 : decode cX2_firstOrder 38 = .ok (.iconst 0, 1) := by decide +kernel
theorem dX2_firstOrder_39 : decode cX2_firstOrder 39 = .ok (.istore 7, 2) := by decide +kernel
theorem dX2_firstOrder_41 : decode cX2_firstOrder 41 = .ok (.iload 7, 2) := by decide +kernel
theorem dX2_firstOrder_43 : decode cX2_firstOrder 43 = .ok (.iload_n 3, 1) := by decide +kernel
theorem dX2_firstOrder_44 : decode cX2_firstOrder 44 = .ok (.if_icmp .gt 34, 3) := by decide +kernel
theorem dX2_firstOrder_47 : decode cX2_firstOrder 47 = .ok (.aload_n 1, 1) := by decide +kernel
theorem dX2_firstOrder_48 : decode cX2_firstOrder 48 = .ok (.iload 4, 2) := by decide +kernel
theorem dX2_firstOrder_50 : decode cX2_firstOrder 50 = .ok (.iload 5, 2) := by decide +kernel
theorem dX2_firstOrder_52 : decode cX2_firstOrder 52 = .ok (.invokestatic 45, 3) := by decide +kernel
theorem dX2_firstOrder_55 : decode cX2_firstOrder 55 = .ok (.istore 6, 2) := by decide +kernel
theorem dX2_firstOrder_57 : decode cX2_firstOrder 57 = .ok (.iload 6, 2) := by decide +kernel
theorem dX2_firstOrder_59 : decode cX2_firstOrder 59 = .ok (.iconst (-1), 1) := by decide +kernel
theorem dX2_firstOrder_60 : decode cX2_firstOrder 60 = .ok (.if_icmp .eq 12, 3) := by decide +kernel
theorem dX2_firstOrder_63 : decode cX2_firstOrder 63 = .ok (.iload 5, 2) := by decide +kernel
theorem dX2_firstOrder_65 : decode cX2_firstOrder 65 = .ok (.iconst 1, 1) := by decide +kernel
theorem dX2_firstOrder_66 : decode cX2_firstOrder 66 = .ok (.iload 6, 2) := by decide +kernel
theorem dX2_firstOrder_68 : decode cX2_firstOrder 68 = .ok (.ishl, 1) := by decide +kernel
theorem dX2_firstOrder_69 : decode cX2_firstOrder 69 = .ok (.ior, 1) := by decide +kernel
theorem dX2_firstOrder_70 : decode cX2_firstOrder 70 = .ok (.istore 5, 2) := by decide +kernel
theorem dX2_firstOrder_72 : decode cX2_firstOrder 72 = .ok (.iinc 7 1, 3) := by decide +kernel
theorem dX2_firstOrder_75 : decode cX2_firstOrder 75 = .ok (.goto (-34), 3) := by decide +kernel
theorem dX2_firstOrder_78 : decode cX2_firstOrder 78 = .ok (.iload 6, 2) := by decide +kernel
theorem dX2_firstOrder_80 : decode cX2_firstOrder 80 = .ok (.ireturn, 1) := by decide +kernel
theorem dX2_stuckPermits_0 : decode cX2_stuckPermits 0 = .ok (.iconst 0, 1) := by decide +kernel
theorem dX2_stuckPermits_1 : decode cX2_stuckPermits 1 = .ok (.istore_n 2, 1) := by decide +kernel
theorem dX2_stuckPermits_2 : decode cX2_stuckPermits 2 = .ok (.iconst 0, 1) := by decide +kernel
theorem dX2_stuckPermits_3 : decode cX2_stuckPermits 3 = .ok (.istore_n 3, 1) := by decide +kernel
theorem dX2_stuckPermits_4 : decode cX2_stuckPermits 4 = .ok (.iload_n 3, 1) := by decide +kernel
theorem dX2_stuckPermits_5 : decode cX2_stuckPermits 5 = .ok (.aload_n 1, 1) := by decide +kernel
theorem dX2_stuckPermits_6 : decode cX2_stuckPermits 6 = .ok (.getfield 65, 3) := by decide +kernel
theorem dX2_stuckPermits_9 : decode cX2_stuckPermits 9 = .ok (.if_icmp .ge 28, 3) := by decide +kernel
theorem dX2_stuckPermits_12 : decode cX2_stuckPermits 12 = .ok (.aload_n 1, 1) := by decide +kernel
theorem dX2_stuckPermits_13 : decode cX2_stuckPermits 13 = .ok (.aload_n 1, 1) := by decide +kernel
theorem dX2_stuckPermits_14 : decode cX2_stuckPermits 14 = .ok (.getfield 48, 3) := by decide +kernel
theorem dX2_stuckPermits_17 : decode cX2_stuckPermits 17 = .ok (.iload_n 3, 1) := by decide +kernel
theorem dX2_stuckPermits_18 : decode cX2_stuckPermits 18 = .ok (.iaload, 1) := by decide +kernel
theorem dX2_stuckPermits_19 : decode cX2_stuckPermits 19 = .ok (.invokestatic 61, 3) := by decide +kernel
theorem dX2_stuckPermits_22 : decode cX2_stuckPermits 22 = .ok (.ifCond .ne 9, 3) := by decide +kernel
theorem dX2_stuckPermits_25 : decode cX2_stuckPermits 25 = .ok (.iload_n 2, 1) := by decide +kernel
theorem dX2_stuckPermits_26 : decode cX2_stuckPermits 26 = .ok (.iconst 1, 1) := by decide +kernel
theorem dX2_stuckPermits_27 : decode cX2_stuckPermits 27 = .ok (.iload_n 3, 1) := by decide +kernel
theorem dX2_stuckPermits_28 : decode cX2_stuckPermits 28 = .ok (.ishl, 1) := by decide +kernel
theorem dX2_stuckPermits_29 : decode cX2_stuckPermits 29 = .ok (.ior, 1) := by decide +kernel
theorem dX2_stuckPermits_30 : decode cX2_stuckPermits 30 = .ok (.istore_n 2, 1) := by decide +kernel
theorem dX2_stuckPermits_31 : decode cX2_stuckPermits 31 = .ok (.iinc 3 1, 3) := by decide +kernel
theorem dX2_stuckPermits_34 : decode cX2_stuckPermits 34 = .ok (.goto (-30), 3) := by decide +kernel
theorem dX2_stuckPermits_37 : decode cX2_stuckPermits 37 = .ok (.iload_n 2, 1) := by decide +kernel
theorem dX2_stuckPermits_38 : decode cX2_stuckPermits 38 = .ok (.ireturn, 1) := by decide +kernel
theorem dX2_soonestClerk_0 : decode cX2_soonestClerk 0 = .ok (.ldc 68, 2) := by decide +kernel
theorem dX2_soonestClerk_2 : decode cX2_soonestClerk 2 = .ok (.istore 4, 2) := by decide +kernel
theorem dX2_soonestClerk_4 : decode cX2_soonestClerk 4 = .ok (.iconst 0, 1) := by decide +kernel
theorem dX2_soonestClerk_5 : decode cX2_soonestClerk 5 = .ok (.istore 5, 2) := by decide +kernel
theorem dX2_soonestClerk_7 : decode cX2_soonestClerk 7 = .ok (.iload 5, 2) := by decide +kernel
theorem dX2_soonestClerk_9 : decode cX2_soonestClerk 9 = .ok (.aload_n 1, 1) := by decide +kernel
theorem dX2_soonestClerk_10 : decode cX2_soonestClerk 10 = .ok (.getfield 69, 3) := by decide +kernel
theorem dX2_soonestClerk_13 : decode cX2_soonestClerk 13 = .ok (.if_icmp .ge 44, 3) := by decide +kernel
theorem dX2_soonestClerk_16 : decode cX2_soonestClerk 16 = .ok (.aload_n 1, 1) := by decide +kernel
theorem dX2_soonestClerk_17 : decode cX2_soonestClerk 17 = .ok (.getfield 72, 3) := by decide +kernel
theorem dX2_soonestClerk_20 : decode cX2_soonestClerk 20 = .ok (.iload 5, 2) := by decide +kernel
theorem dX2_soonestClerk_22 : decode cX2_soonestClerk 22 = .ok (.iaload, 1) := by decide +kernel
theorem dX2_soonestClerk_23 : decode cX2_soonestClerk 23 = .ok (.iload_n 2, 1) := by decide +kernel
theorem dX2_soonestClerk_24 : decode cX2_soonestClerk 24 = .ok (.if_icmp .ne 27, 3) := by decide +kernel
theorem dX2_soonestClerk_27 : decode cX2_soonestClerk 27 = .ok (.iload 4, 2) := by decide +kernel
theorem dX2_soonestClerk_29 : decode cX2_soonestClerk 29 = .ok (.aload_n 0, 1) := by decide +kernel
theorem dX2_soonestClerk_30 : decode cX2_soonestClerk 30 = .ok (.getfield 12, 3) := by decide +kernel
theorem dX2_soonestClerk_33 : decode cX2_soonestClerk 33 = .ok (.aload_n 1, 1) := by decide +kernel
theorem dX2_soonestClerk_34 : decode cX2_soonestClerk 34 = .ok (.aload_n 1, 1) := by decide +kernel
theorem dX2_soonestClerk_35 : decode cX2_soonestClerk 35 = .ok (.getfield 75, 3) := by decide +kernel
theorem dX2_soonestClerk_38 : decode cX2_soonestClerk 38 = .ok (.iload 5, 2) := by decide +kernel
theorem dX2_soonestClerk_40 : decode cX2_soonestClerk 40 = .ok (.iaload, 1) := by decide +kernel
theorem dX2_soonestClerk_41 : decode cX2_soonestClerk 41 = .ok (.iconst 0, 1) := by decide +kernel
theorem dX2_soonestClerk_42 : decode cX2_soonestClerk 42 = .ok (.iload_n 3, 1) := by decide +kernel
theorem dX2_soonestClerk_43 : decode cX2_soonestClerk 43 = .ok (.invokevirtual 78, 3) := by decide +kernel
theorem dX2_soonestClerk_46 : decode cX2_soonestClerk 46 = .ok (.invokestatic 82, 3) := by decide +kernel
theorem dX2_soonestClerk_49 : decode cX2_soonestClerk 49 = .ok (.istore 4, 2) := by decide +kernel
theorem dX2_soonestClerk_51 : decode cX2_soonestClerk 51 = .ok (.iinc 5 1, 3) := by decide +kernel
theorem dX2_soonestClerk_54 : decode cX2_soonestClerk 54 = .ok (.goto (-47), 3) := by decide +kernel
theorem dX2_soonestClerk_57 : decode cX2_soonestClerk 57 = .ok (.iload 4, 2) := by decide +kernel
theorem dX2_soonestClerk_59 : decode cX2_soonestClerk 59 = .ok (.ireturn, 1) := by decide +kernel
theorem dX2_lackedMarks_0 : decode cX2_lackedMarks 0 = .ok (.iconst 0, 1) := by decide +kernel
theorem dX2_lackedMarks_1 : decode cX2_lackedMarks 1 = .ok (.istore_n 3, 1) := by decide +kernel
theorem dX2_lackedMarks_2 : decode cX2_lackedMarks 2 = .ok (.iconst 0, 1) := by decide +kernel
theorem dX2_lackedMarks_3 : decode cX2_lackedMarks 3 = .ok (.istore 4, 2) := by decide +kernel
theorem dX2_lackedMarks_5 : decode cX2_lackedMarks 5 = .ok (.iload 4, 2) := by decide +kernel
theorem dX2_lackedMarks_7 : decode cX2_lackedMarks 7 = .ok (.aload_n 1, 1) := by decide +kernel
theorem dX2_lackedMarks_8 : decode cX2_lackedMarks 8 = .ok (.getfield 34, 3) := by decide +kernel
theorem dX2_lackedMarks_11 : decode cX2_lackedMarks 11 = .ok (.if_icmp .ge 48, 3) := by decide +kernel
theorem dX2_lackedMarks_14 : decode cX2_lackedMarks 14 = .ok (.aload_n 1, 1) := by decide +kernel
theorem dX2_lackedMarks_15 : decode cX2_lackedMarks 15 = .ok (.getfield 48, 3) := by decide +kernel
theorem dX2_lackedMarks_18 : decode cX2_lackedMarks 18 = .ok (.iload_n 2, 1) := by decide +kernel
theorem dX2_lackedMarks_19 : decode cX2_lackedMarks 19 = .ok (.iaload, 1) := by decide +kernel
theorem dX2_lackedMarks_20 : decode cX2_lackedMarks 20 = .ok (.iload 4, 2) := by decide +kernel
theorem dX2_lackedMarks_22 : decode cX2_lackedMarks 22 = .ok (.invokestatic 37, 3) := by decide +kernel
theorem dX2_lackedMarks_25 : decode cX2_lackedMarks 25 = .ok (.ifCond .eq 28, 3) := by decide +kernel
theorem dX2_lackedMarks_28 : decode cX2_lackedMarks 28 = .ok (.aload_n 0, 1) := by decide +kernel
theorem dX2_lackedMarks_29 : decode cX2_lackedMarks 29 = .ok (.aload_n 1, 1) := by decide +kernel
theorem dX2_lackedMarks_30 : decode cX2_lackedMarks 30 = .ok (.iload 4, 2) := by decide +kernel
theorem dX2_lackedMarks_32 : decode cX2_lackedMarks 32 = .ok (.aload_n 1, 1) := by decide +kernel
theorem dX2_lackedMarks_33 : decode cX2_lackedMarks 33 = .ok (.getfield 88, 3) := by decide +kernel
theorem dX2_lackedMarks_36 : decode cX2_lackedMarks 36 = .ok (.iload_n 2, 1) := by decide +kernel
theorem dX2_lackedMarks_37 : decode cX2_lackedMarks 37 = .ok (.iaload, 1) := by decide +kernel
theorem dX2_lackedMarks_38 : decode cX2_lackedMarks 38 = .ok (.invokevirtual 91, 3) := by decide +kernel
theorem dX2_lackedMarks_41 : decode cX2_lackedMarks 41 = .ok (.ldc 68, 2) := by decide +kernel
theorem dX2_lackedMarks_43 : decode cX2_lackedMarks 43 = .ok (.if_icmp .ne 10, 3) := by decide +kernel
theorem dX2_lackedMarks_46 : decode cX2_lackedMarks 46 = .ok (.iload_n 3, 1) := by decide +kernel
theorem dX2_lackedMarks_47 : decode cX2_lackedMarks 47 = .ok (.iconst 1, 1) := by decide +kernel
theorem dX2_lackedMarks_48 : decode cX2_lackedMarks 48 = .ok (.iload 4, 2) := by decide +kernel
theorem dX2_lackedMarks_50 : decode cX2_lackedMarks 50 = .ok (.ishl, 1) := by decide +kernel
theorem dX2_lackedMarks_51 : decode cX2_lackedMarks 51 = .ok (.ior, 1) := by decide +kernel
theorem dX2_lackedMarks_52 : decode cX2_lackedMarks 52 = .ok (.istore_n 3, 1) := by decide +kernel
theorem dX2_lackedMarks_53 : decode cX2_lackedMarks 53 = .ok (.iinc 4 1, 3) := by decide +kernel
theorem dX2_lackedMarks_56 : decode cX2_lackedMarks 56 = .ok (.goto (-51), 3) := by decide +kernel
theorem dX2_lackedMarks_59 : decode cX2_lackedMarks 59 = .ok (.iload_n 3, 1) := by decide +kernel
theorem dX2_lackedMarks_60 : decode cX2_lackedMarks 60 = .ok (.ireturn, 1) := by decide +kernel
theorem dX2_readyHour_0 : decode cX2_readyHour 0 = .ok (.aload_n 1, 1) := by decide +kernel
theorem dX2_readyHour_1 : decode cX2_readyHour 1 = .ok (.getfield 48, 3) := by decide +kernel
theorem dX2_readyHour_4 : decode cX2_readyHour 4 = .ok (.iload_n 2, 1) := by decide +kernel
theorem dX2_readyHour_5 : decode cX2_readyHour 5 = .ok (.iaload, 1) := by decide +kernel
theorem dX2_readyHour_6 : decode cX2_readyHour 6 = .ok (.istore 4, 2) := by decide +kernel
theorem dX2_readyHour_8 : decode cX2_readyHour 8 = .ok (.aload_n 1, 1) := by decide +kernel
theorem dX2_readyHour_9 : decode cX2_readyHour 9 = .ok (.iload 4, 2) := by decide +kernel
theorem dX2_readyHour_11 : decode cX2_readyHour 11 = .ok (.invokestatic 61, 3) := by decide +kernel
theorem dX2_readyHour_14 : decode cX2_readyHour 14 = .ok (.ifCond .ne 6, 3) := by decide +kernel
theorem dX2_readyHour_17 : decode cX2_readyHour 17 = .ok (.ldc 68, 2) := by decide +kernel
theorem dX2_readyHour_19 : decode cX2_readyHour 19 = .ok (.ireturn, 1) := by decide +kernel
theorem dX2_readyHour_20 : decode cX2_readyHour 20 = .ok (.iconst 0, 1) := by decide +kernel
theorem dX2_readyHour_21 : decode cX2_readyHour 21 = .ok (.istore 5, 2) := by decide +kernel
theorem dX2_readyHour_23 : decode cX2_readyHour 23 = .ok (.iconst 0, 1) := by decide +kernel
theorem dX2_readyHour_24 : decode cX2_readyHour 24 = .ok (.istore 6, 2) := by decide +kernel
theorem dX2_readyHour_26 : decode cX2_readyHour 26 = .ok (.iload 6, 2) := by decide +kernel
theorem dX2_readyHour_28 : decode cX2_readyHour 28 = .ok (.aload_n 1, 1) := by decide +kernel
theorem dX2_readyHour_29 : decode cX2_readyHour 29 = .ok (.getfield 34, 3) := by decide +kernel
theorem dX2_readyHour_32 : decode cX2_readyHour 32 = .ok (.if_icmp .ge 34, 3) := by decide +kernel
theorem dX2_readyHour_35 : decode cX2_readyHour 35 = .ok (.iload 4, 2) := by decide +kernel
theorem dX2_readyHour_37 : decode cX2_readyHour 37 = .ok (.iload 6, 2) := by decide +kernel
theorem dX2_readyHour_39 : decode cX2_readyHour 39 = .ok (.invokestatic 37, 3) := by decide +kernel
theorem dX2_readyHour_42 : decode cX2_readyHour 42 = .ok (.ifCond .eq 18, 3) := by decide +kernel
theorem dX2_readyHour_45 : decode cX2_readyHour 45 = .ok (.iload 5, 2) := by decide +kernel
theorem dX2_readyHour_47 : decode cX2_readyHour 47 = .ok (.aload_n 0, 1) := by decide +kernel
theorem dX2_readyHour_48 : decode cX2_readyHour 48 = .ok (.aload_n 1, 1) := by decide +kernel
theorem dX2_readyHour_49 : decode cX2_readyHour 49 = .ok (.iload 6, 2) := by decide +kernel
theorem dX2_readyHour_51 : decode cX2_readyHour 51 = .ok (.iload_n 3, 1) := by decide +kernel
theorem dX2_readyHour_52 : decode cX2_readyHour 52 = .ok (.invokevirtual 91, 3) := by decide +kernel
theorem dX2_readyHour_55 : decode cX2_readyHour 55 = .ok (.invokestatic 94, 3) := by decide +kernel
theorem dX2_readyHour_58 : decode cX2_readyHour 58 = .ok (.istore 5, 2) := by decide +kernel
theorem dX2_readyHour_60 : decode cX2_readyHour 60 = .ok (.iinc 6 1, 3) := by decide +kernel
theorem dX2_readyHour_63 : decode cX2_readyHour 63 = .ok (.goto (-37), 3) := by decide +kernel
theorem dX2_readyHour_66 : decode cX2_readyHour 66 = .ok (.iload 5, 2) := by decide +kernel
theorem dX2_readyHour_68 : decode cX2_readyHour 68 = .ok (.ireturn, 1) := by decide +kernel
theorem dX2_bestPlace_0 : decode cX2_bestPlace 0 = .ok (.ldc 68, 2) := by decide +kernel
theorem dX2_bestPlace_2 : decode cX2_bestPlace 2 = .ok (.istore 4, 2) := by decide +kernel
theorem dX2_bestPlace_4 : decode cX2_bestPlace 4 = .ok (.iconst (-1), 1) := by decide +kernel
theorem dX2_bestPlace_5 : decode cX2_bestPlace 5 = .ok (.istore 5, 2) := by decide +kernel
theorem dX2_bestPlace_7 : decode cX2_bestPlace 7 = .ok (.iconst 0, 1) := by decide +kernel
theorem dX2_bestPlace_8 : decode cX2_bestPlace 8 = .ok (.istore 6, 2) := by decide +kernel
theorem dX2_bestPlace_10 : decode cX2_bestPlace 10 = .ok (.iload 6, 2) := by decide +kernel
theorem dX2_bestPlace_12 : decode cX2_bestPlace 12 = .ok (.aload_n 1, 1) := by decide +kernel
theorem dX2_bestPlace_13 : decode cX2_bestPlace 13 = .ok (.getfield 34, 3) := by decide +kernel
theorem dX2_bestPlace_16 : decode cX2_bestPlace 16 = .ok (.if_icmp .ge 48, 3) := by decide +kernel
theorem dX2_bestPlace_19 : decode cX2_bestPlace 19 = .ok (.aload_n 1, 1) := by decide +kernel
theorem dX2_bestPlace_20 : decode cX2_bestPlace 20 = .ok (.getfield 48, 3) := by decide +kernel
theorem dX2_bestPlace_23 : decode cX2_bestPlace 23 = .ok (.iload_n 2, 1) := by decide +kernel
theorem dX2_bestPlace_24 : decode cX2_bestPlace 24 = .ok (.iaload, 1) := by decide +kernel
theorem dX2_bestPlace_25 : decode cX2_bestPlace 25 = .ok (.iload 6, 2) := by decide +kernel
theorem dX2_bestPlace_27 : decode cX2_bestPlace 27 = .ok (.invokestatic 37, 3) := by decide +kernel
theorem dX2_bestPlace_30 : decode cX2_bestPlace 30 = .ok (.ifCond .ne 28, 3) := by decide +kernel
theorem dX2_bestPlace_33 : decode cX2_bestPlace 33 = .ok (.aload_n 0, 1) := by decide +kernel
theorem dX2_bestPlace_34 : decode cX2_bestPlace 34 = .ok (.aload_n 1, 1) := by decide +kernel
theorem dX2_bestPlace_35 : decode cX2_bestPlace 35 = .ok (.iload_n 2, 1) := by decide +kernel
theorem dX2_bestPlace_36 : decode cX2_bestPlace 36 = .ok (.iload 6, 2) := by decide +kernel
theorem dX2_bestPlace_38 : decode cX2_bestPlace 38 = .ok (.invokevirtual 97, 3) := by decide +kernel
theorem dX2_bestPlace_41 : decode cX2_bestPlace 41 = .ok (.istore 7, 2) := by decide +kernel
theorem dX2_bestPlace_43 : decode cX2_bestPlace 43 = .ok (.iload 7, 2) := by decide +kernel
theorem dX2_bestPlace_45 : decode cX2_bestPlace 45 = .ok (.iload 4, 2) := by decide +kernel
theorem dX2_bestPlace_47 : decode cX2_bestPlace 47 = .ok (.if_icmp .ge 11, 3) := by decide +kernel
theorem dX2_bestPlace_50 : decode cX2_bestPlace 50 = .ok (.iload 7, 2) := by decide +kernel
theorem dX2_bestPlace_52 : decode cX2_bestPlace 52 = .ok (.istore 4, 2) := by decide +kernel
theorem dX2_bestPlace_54 : decode cX2_bestPlace 54 = .ok (.iload 6, 2) := by decide +kernel
theorem dX2_bestPlace_56 : decode cX2_bestPlace 56 = .ok (.istore 5, 2) := by decide +kernel
theorem dX2_bestPlace_58 : decode cX2_bestPlace 58 = .ok (.iinc 6 1, 3) := by decide +kernel
theorem dX2_bestPlace_61 : decode cX2_bestPlace 61 = .ok (.goto (-51), 3) := by decide +kernel
theorem dX2_bestPlace_64 : decode cX2_bestPlace 64 = .ok (.iload_n 3, 1) := by decide +kernel
theorem dX2_bestPlace_65 : decode cX2_bestPlace 65 = .ok (.ifCond .eq 14, 3) := by decide +kernel
theorem dX2_bestPlace_68 : decode cX2_bestPlace 68 = .ok (.iload 5, 2) := by decide +kernel
theorem dX2_bestPlace_70 : decode cX2_bestPlace 70 = .ok (.iconst (-1), 1) := by decide +kernel
theorem dX2_bestPlace_71 : decode cX2_bestPlace 71 = .ok (.if_icmp .eq 8, 3) := by decide +kernel
theorem dX2_bestPlace_74 : decode cX2_bestPlace 74 = .ok (.iload 4, 2) := by decide +kernel
theorem dX2_bestPlace_76 : decode cX2_bestPlace 76 = .ok (.goto 5, 3) := by decide +kernel
theorem dX2_bestPlace_79 : decode cX2_bestPlace 79 = .ok (.iload 5, 2) := by decide +kernel
theorem dX2_bestPlace_81 : decode cX2_bestPlace 81 = .ok (.ireturn, 1) := by decide +kernel
theorem dX3_init_0 : decode cX3_init 0 = .ok (.aload_n 0, 1) := by decide +kernel
theorem dX3_init_1 : decode cX3_init 1 = .ok (.invokespecial 3, 3) := by decide +kernel
theorem dX3_init_4 : decode cX3_init 4 = .ok (.aload_n 0, 1) := by decide +kernel
theorem dX3_init_5 : decode cX3_init 5 = .ok (.iconst 3, 1) := by decide +kernel
theorem dX3_init_6 : decode cX3_init 6 = .ok (.putfield 11, 3) := by decide +kernel
theorem dX3_init_9 : decode cX3_init 9 = .ok (.aload_n 0, 1) := by decide +kernel
theorem dX3_init_10 : decode cX3_init 10 = .ok (.iconst 0, 1) := by decide +kernel
theorem dX3_init_11 : decode cX3_init 11 = .ok (.putfield 15, 3) := by decide +kernel
theorem dX3_init_14 : decode cX3_init 14 = .ok (.aload_n 0, 1) := by decide +kernel
theorem dX3_init_15 : decode cX3_init 15 = .ok (.iconst 0, 1) := by decide +kernel
theorem dX3_init_16 : decode cX3_init 16 = .ok (.putfield 18, 3) := by decide +kernel
theorem dX3_init_19 : decode cX3_init 19 = .ok (.aload_n 0, 1) := by decide +kernel
theorem dX3_init_20 : decode cX3_init 20 = .ok (.iconst 0, 1) := by decide +kernel
theorem dX3_init_21 : decode cX3_init 21 = .ok (.putfield 21, 3) := by decide +kernel
theorem dX3_init_24 : decode cX3_init 24 = .ok (.aload_n 0, 1) := by decide +kernel
theorem dX3_init_25 : decode cX3_init 25 = .ok (.iconst 0, 1) := by decide +kernel
theorem dX3_init_26 : decode cX3_init 26 = .ok (.putfield 24, 3) := by decide +kernel
theorem dX3_init_29 : decode cX3_init 29 = .ok (.aload_n 0, 1) := by decide +kernel
theorem dX3_init_30 : decode cX3_init 30 = .ok (.bipush 12, 2) := by decide +kernel
theorem dX3_init_32 : decode cX3_init 32 = .ok (.newarray .int, 2) := by decide +kernel
theorem dX3_init_34 : decode cX3_init 34 = .ok (.putfield 27, 3) := by decide +kernel
theorem dX3_init_37 : decode cX3_init 37 = .ok (.aload_n 0, 1) := by decide +kernel
theorem dX3_init_38 : decode cX3_init 38 = .ok (.bipush 12, 2) := by decide +kernel
theorem dX3_init_40 : decode cX3_init 40 = .ok (.newarray .int, 2) := by decide +kernel
theorem dX3_init_42 : decode cX3_init 42 = .ok (.putfield 31, 3) := by decide +kernel
theorem dX3_init_45 : decode cX3_init 45 = .ok (.aload_n 0, 1) := by decide +kernel
theorem dX3_init_46 : decode cX3_init 46 = .ok (.bipush 12, 2) := by decide +kernel
theorem dX3_init_48 : decode cX3_init 48 = .ok (.newarray .int, 2) := by decide +kernel
theorem dX3_init_50 : decode cX3_init 50 = .ok (.putfield 34, 3) := by decide +kernel
theorem dX3_init_53 : decode cX3_init 53 = .ok (.aload_n 0, 1) := by decide +kernel
theorem dX3_init_54 : decode cX3_init 54 = .ok (.bipush 12, 2) := by decide +kernel
theorem dX3_init_56 : decode cX3_init 56 = .ok (.newarray .int, 2) := by decide +kernel
theorem dX3_init_58 : decode cX3_init 58 = .ok (.putfield 37, 3) := by decide +kernel
theorem dX3_init_61 : decode cX3_init 61 = .ok (.aload_n 0, 1) := by decide +kernel
theorem dX3_init_62 : decode cX3_init 62 = .ok (.bipush 8, 2) := by decide +kernel
theorem dX3_init_64 : decode cX3_init 64 = .ok (.newarray .int, 2) := by decide +kernel
theorem dX3_init_66 : decode cX3_init 66 = .ok (.putfield 40, 3) := by decide +kernel
theorem dX3_init_69 : decode cX3_init 69 = .ok (.aload_n 0, 1) := by decide +kernel
theorem dX3_init_70 : decode cX3_init 70 = .ok (.bipush 8, 2) := by decide +kernel
theorem dX3_init_72 : decode cX3_init 72 = .ok (.newarray .int, 2) := by decide +kernel
theorem dX3_init_74 : decode cX3_init 74 = .ok (.putfield 43, 3) := by decide +kernel
theorem dX3_init_77 : decode cX3_init 77 = .ok (.aload_n 0, 1) := by decide +kernel
theorem dX3_init_78 : decode cX3_init 78 = .ok (.bipush 6, 2) := by decide +kernel
theorem dX3_init_80 : decode cX3_init 80 = .ok (.newarray .int, 2) := by decide +kernel
theorem dX3_init_82 : decode cX3_init 82 = .ok (.putfield 46, 3) := by decide +kernel
theorem dX3_init_85 : decode cX3_init 85 = .ok (.aload_n 0, 1) := by decide +kernel
theorem dX3_init_86 : decode cX3_init 86 = .ok (.bipush 6, 2) := by decide +kernel
theorem dX3_init_88 : decode cX3_init 88 = .ok (.newarray .int, 2) := by decide +kernel
theorem dX3_init_90 : decode cX3_init 90 = .ok (.putfield 49, 3) := by decide +kernel
theorem dX3_init_93 : decode cX3_init 93 = .ok (.aload_n 0, 1) := by decide +kernel
theorem dX3_init_94 : decode cX3_init 94 = .ok (.iconst 4, 1) := by decide +kernel
theorem dX3_init_95 : decode cX3_init 95 = .ok (.newarray .int, 2) := by decide +kernel
theorem dX3_init_97 : decode cX3_init 97 = .ok (.putfield 52, 3) := by decide +kernel
theorem dX3_init_100 : decode cX3_init 100 = .ok (.aload_n 0, 1) := by decide +kernel
theorem dX3_init_101 : decode cX3_init 101 = .ok (.iconst 4, 1) := by decide +kernel
theorem dX3_init_102 : decode cX3_init 102 = .ok (.newarray .int, 2) := by decide +kernel
theorem dX3_init_104 : decode cX3_init 104 = .ok (.putfield 55, 3) := by decide +kernel
theorem dX3_init_107 : decode cX3_init 107 = .ok (.aload_n 0, 1) := by decide +kernel
theorem dX3_init_108 : decode cX3_init 108 = .ok (.sipush 432, 3) := by decide +kernel
theorem dX3_init_111 : decode cX3_init 111 = .ok (.newarray .int, 2) := by decide +kernel
theorem dX3_init_113 : decode cX3_init 113 = .ok (.putfield 58, 3) := by decide +kernel
theorem dX3_init_116 : decode cX3_init 116 = .ok (.aload_n 0, 1) := by decide +kernel
theorem dX3_init_117 : decode cX3_init 117 = .ok (.bipush 6, 2) := by decide +kernel
theorem dX3_init_119 : decode cX3_init 119 = .ok (.newarray .int, 2) := by decide +kernel
theorem dX3_init_121 : decode cX3_init 121 = .ok (.putfield 61, 3) := by decide +kernel
theorem dX3_init_124 : decode cX3_init 124 = .ok (.return_, 1) := by decide +kernel
theorem dX3_clear_0 : decode cX3_clear 0 = .ok (.aload_n 0, 1) := by decide +kernel
theorem dX3_clear_1 : decode cX3_clear 1 = .ok (.iconst 3, 1) := by decide +kernel
theorem dX3_clear_2 : decode cX3_clear 2 = .ok (.putfield 11, 3) := by decide +kernel
theorem dX3_clear_5 : decode cX3_clear 5 = .ok (.aload_n 0, 1) := by decide +kernel
theorem dX3_clear_6 : decode cX3_clear 6 = .ok (.iconst 0, 1) := by decide +kernel
theorem dX3_clear_7 : decode cX3_clear 7 = .ok (.putfield 15, 3) := by decide +kernel
theorem dX3_clear_10 : decode cX3_clear 10 = .ok (.aload_n 0, 1) := by decide +kernel
theorem dX3_clear_11 : decode cX3_clear 11 = .ok (.iconst 0, 1) := by decide +kernel
theorem dX3_clear_12 : decode cX3_clear 12 = .ok (.putfield 18, 3) := by decide +kernel
theorem dX3_clear_15 : decode cX3_clear 15 = .ok (.aload_n 0, 1) := by decide +kernel
theorem dX3_clear_16 : decode cX3_clear 16 = .ok (.iconst 0, 1) := by decide +kernel
theorem dX3_clear_17 : decode cX3_clear 17 = .ok (.putfield 21, 3) := by decide +kernel
theorem dX3_clear_20 : decode cX3_clear 20 = .ok (.aload_n 0, 1) := by decide +kernel
theorem dX3_clear_21 : decode cX3_clear 21 = .ok (.iconst 0, 1) := by decide +kernel
theorem dX3_clear_22 : decode cX3_clear 22 = .ok (.putfield 24, 3) := by decide +kernel
theorem dX3_clear_25 : decode cX3_clear 25 = .ok (.iconst 0, 1) := by decide +kernel
theorem dX3_clear_26 : decode cX3_clear 26 = .ok (.istore_n 1, 1) := by decide +kernel
theorem dX3_clear_27 : decode cX3_clear 27 = .ok (.iload_n 1, 1) := by decide +kernel
theorem dX3_clear_28 : decode cX3_clear 28 = .ok (.bipush 8, 2) := by decide +kernel
theorem dX3_clear_30 : decode cX3_clear 30 = .ok (.if_icmp .ge 16, 3) := by decide +kernel
theorem dX3_clear_33 : decode cX3_clear 33 = .ok (.aload_n 0, 1) := by decide +kernel
theorem dX3_clear_34 : decode cX3_clear 34 = .ok (.getfield 43, 3) := by decide +kernel
theorem dX3_clear_37 : decode cX3_clear 37 = .ok (.iload_n 1, 1) := by decide +kernel
theorem dX3_clear_38 : decode cX3_clear 38 = .ok (.iconst 0, 1) := by decide +kernel
theorem dX3_clear_39 : decode cX3_clear 39 = .ok (.iastore, 1) := by decide +kernel
theorem dX3_clear_40 : decode cX3_clear 40 = .ok (.iinc 1 1, 3) := by decide +kernel
theorem dX3_clear_43 : decode cX3_clear 43 = .ok (.goto (-16), 3) := by decide +kernel
theorem dX3_clear_46 : decode cX3_clear 46 = .ok (.aload_n 0, 1) := by decide +kernel
theorem dX3_clear_47 : decode cX3_clear 47 = .ok (.invokevirtual 64, 3) := by decide +kernel
theorem dX3_clear_50 : decode cX3_clear 50 = .ok (.return_, 1) := by decide +kernel
theorem dX3_copy_0 : decode cX3_copy 0 = .ok (.aload_n 0, 1) := by decide +kernel
theorem dX3_copy_1 : decode cX3_copy 1 = .ok (.aload_n 1, 1) := by decide +kernel
theorem dX3_copy_2 : decode cX3_copy 2 = .ok (.getfield 11, 3) := by decide +kernel
theorem dX3_copy_5 : decode cX3_copy 5 = .ok (.putfield 11, 3) := by decide +kernel
theorem dX3_copy_8 : decode cX3_copy 8 = .ok (.aload_n 0, 1) := by decide +kernel
theorem dX3_copy_9 : decode cX3_copy 9 = .ok (.aload_n 1, 1) := by decide +kernel
theorem dX3_copy_10 : decode cX3_copy 10 = .ok (.getfield 15, 3) := by decide +kernel
theorem dX3_copy_13 : decode cX3_copy 13 = .ok (.putfield 15, 3) := by decide +kernel
theorem dX3_copy_16 : decode cX3_copy 16 = .ok (.aload_n 0, 1) := by decide +kernel

theorem dX12_couplesWithout_12 : decode cX12_couplesWithout 12 = .ok (.iload_n 2, 1) := by decide +kernel
theorem dX12_couplesWithout_13 : decode cX12_couplesWithout 13 = .ok (.aload_n 0, 1) := by decide +kernel
theorem dX12_couplesWithout_14 : decode cX12_couplesWithout 14 = .ok (.iconst 5, 1) := by decide +kernel
theorem dX12_couplesWithout_15 : decode cX12_couplesWithout 15 = .ok (.iload_n 3, 1) := by decide +kernel
theorem dX12_couplesWithout_16 : decode cX12_couplesWithout 16 = .ok (.iadd, 1) := by decide +kernel
theorem dX12_couplesWithout_17 : decode cX12_couplesWithout 17 = .ok (.invokevirtual 246, 3) := by decide +kernel
theorem dX12_couplesWithout_20 : decode cX12_couplesWithout 20 = .ok (.iload_n 1, 1) := by decide +kernel
theorem dX12_couplesWithout_21 : decode cX12_couplesWithout 21 = .ok (.if_icmp .eq 15, 3) := by decide +kernel
theorem dX12_couplesWithout_24 : decode cX12_couplesWithout 24 = .ok (.aload_n 0, 1) := by decide +kernel
theorem dX12_couplesWithout_25 : decode cX12_couplesWithout 25 = .ok (.bipush 17, 2) := by decide +kernel
theorem dX12_couplesWithout_27 : decode cX12_couplesWithout 27 = .ok (.iload_n 3, 1) := by decide +kernel
theorem dX12_couplesWithout_28 : decode cX12_couplesWithout 28 = .ok (.iadd, 1) := by decide +kernel
theorem dX12_couplesWithout_29 : decode cX12_couplesWithout 29 = .ok (.invokevirtual 246, 3) := by decide +kernel
theorem dX12_couplesWithout_32 : decode cX12_couplesWithout 32 = .ok (.iload_n 1, 1) := by decide +kernel
theorem dX12_couplesWithout_33 : decode cX12_couplesWithout 33 = .ok (.if_icmp .ne 9, 3) := by decide +kernel
theorem dX12_couplesWithout_36 : decode cX12_couplesWithout 36 = .ok (.iconst 1, 1) := by decide +kernel
theorem dX12_couplesWithout_37 : decode cX12_couplesWithout 37 = .ok (.iload_n 3, 1) := by decide +kernel
theorem dX12_couplesWithout_38 : decode cX12_couplesWithout 38 = .ok (.ishl, 1) := by decide +kernel
theorem dX12_couplesWithout_39 : decode cX12_couplesWithout 39 = .ok (.goto 4, 3) := by decide +kernel
theorem dX12_couplesWithout_42 : decode cX12_couplesWithout 42 = .ok (.iconst 0, 1) := by decide +kernel
theorem dX12_couplesWithout_43 : decode cX12_couplesWithout 43 = .ok (.ior, 1) := by decide +kernel
theorem dX12_couplesWithout_44 : decode cX12_couplesWithout 44 = .ok (.istore_n 2, 1) := by decide +kernel
theorem dX12_couplesWithout_45 : decode cX12_couplesWithout 45 = .ok (.iinc 3 1, 3) := by decide +kernel
theorem dX12_couplesWithout_48 : decode cX12_couplesWithout 48 = .ok (.goto (-44), 3) := by decide +kernel
theorem dX12_couplesWithout_51 : decode cX12_couplesWithout 51 = .ok (.aload_n 0, 1) := by decide +kernel
theorem dX12_couplesWithout_52 : decode cX12_couplesWithout 52 = .ok (.iload_n 2, 1) := by decide +kernel
theorem dX12_couplesWithout_53 : decode cX12_couplesWithout 53 = .ok (.invokevirtual 262, 3) := by decide +kernel
theorem dX12_couplesWithout_56 : decode cX12_couplesWithout 56 = .ok (.iconst 0, 1) := by decide +kernel
theorem dX12_couplesWithout_57 : decode cX12_couplesWithout 57 = .ok (.istore_n 3, 1) := by decide +kernel
theorem dX12_couplesWithout_58 : decode cX12_couplesWithout 58 = .ok (.iconst 0, 1) := by decide +kernel
theorem dX12_couplesWithout_59 : decode cX12_couplesWithout 59 = .ok (.istore 4, 2) := by decide +kernel
theorem dX12_couplesWithout_61 : decode cX12_couplesWithout 61 = .ok (.iload 4, 2) := by decide +kernel
theorem dX12_couplesWithout_63 : decode cX12_couplesWithout 63 = .ok (.aload_n 0, 1) := by decide +kernel
theorem dX12_couplesWithout_64 : decode cX12_couplesWithout 64 = .ok (.getfield 250, 3) := by decide +kernel
theorem dX12_couplesWithout_67 : decode cX12_couplesWithout 67 = .ok (.if_icmp .ge 69, 3) := by decide +kernel
theorem dX12_couplesWithout_70 : decode cX12_couplesWithout 70 = .ok (.iconst 0, 1) := by decide +kernel
theorem dX12_couplesWithout_71 : decode cX12_couplesWithout 71 = .ok (.istore 5, 2) := by decide +kernel
theorem dX12_couplesWithout_73 : decode cX12_couplesWithout 73 = .ok (.iload 5, 2) := by decide +kernel
theorem dX12_couplesWithout_75 : decode cX12_couplesWithout 75 = .ok (.aload_n 0, 1) := by decide +kernel
theorem dX12_couplesWithout_76 : decode cX12_couplesWithout 76 = .ok (.getfield 250, 3) := by decide +kernel
theorem dX12_couplesWithout_79 : decode cX12_couplesWithout 79 = .ok (.if_icmp .ge 51, 3) := by decide +kernel
theorem dX12_couplesWithout_82 : decode cX12_couplesWithout 82 = .ok (.iload_n 3, 1) := by decide +kernel
theorem dX12_couplesWithout_83 : decode cX12_couplesWithout 83 = .ok (.iload 4, 2) := by decide +kernel
theorem dX12_couplesWithout_85 : decode cX12_couplesWithout 85 = .ok (.iload 5, 2) := by decide +kernel
theorem dX12_couplesWithout_87 : decode cX12_couplesWithout 87 = .ok (.if_icmp .eq 34, 3) := by decide +kernel
theorem dX12_couplesWithout_90 : decode cX12_couplesWithout 90 = .ok (.iload 4, 2) := by decide +kernel
theorem dX12_couplesWithout_92 : decode cX12_couplesWithout 92 = .ok (.iload_n 1, 1) := by decide +kernel
theorem dX12_couplesWithout_93 : decode cX12_couplesWithout 93 = .ok (.if_icmp .eq 28, 3) := by decide +kernel
theorem dX12_couplesWithout_96 : decode cX12_couplesWithout 96 = .ok (.iload 5, 2) := by decide +kernel
theorem dX12_couplesWithout_98 : decode cX12_couplesWithout 98 = .ok (.iload_n 1, 1) := by decide +kernel
theorem dX12_couplesWithout_99 : decode cX12_couplesWithout 99 = .ok (.if_icmp .eq 22, 3) := by decide +kernel
theorem dX12_couplesWithout_102 : decode cX12_couplesWithout 102 = .ok (.aload_n 0, 1) := by decide +kernel
theorem dX12_couplesWithout_103 : decode cX12_couplesWithout 103 = .ok (.iload 4, 2) := by decide +kernel
theorem dX12_couplesWithout_105 : decode cX12_couplesWithout 105 = .ok (.iconst 0, 1) := by decide +kernel
theorem dX12_couplesWithout_106 : decode cX12_couplesWithout 106 = .ok (.iload 5, 2) := by decide +kernel
theorem dX12_couplesWithout_108 : decode cX12_couplesWithout 108 = .ok (.invokevirtual 342, 3) := by decide +kernel
theorem dX12_couplesWithout_111 : decode cX12_couplesWithout 111 = .ok (.ldc_w 275, 3) := by decide +kernel
theorem dX12_couplesWithout_114 : decode cX12_couplesWithout 114 = .ok (.if_icmp .ge 7, 3) := by decide +kernel
theorem dX12_couplesWithout_117 : decode cX12_couplesWithout 117 = .ok (.iconst 1, 1) := by decide +kernel
theorem dX12_couplesWithout_118 : decode cX12_couplesWithout 118 = .ok (.goto 4, 3) := by decide +kernel
theorem dX12_couplesWithout_121 : decode cX12_couplesWithout 121 = .ok (.iconst 0, 1) := by decide +kernel
theorem dX12_couplesWithout_122 : decode cX12_couplesWithout 122 = .ok (.iadd, 1) := by decide +kernel
theorem dX12_couplesWithout_123 : decode cX12_couplesWithout 123 = .ok (.istore_n 3, 1) := by decide +kernel
theorem dX12_couplesWithout_124 : decode cX12_couplesWithout 124 = .ok (.iinc 5 1, 3) := by decide +kernel
theorem dX12_couplesWithout_127 : decode cX12_couplesWithout 127 = .ok (.goto (-54), 3) := by decide +kernel
theorem dX12_couplesWithout_130 : decode cX12_couplesWithout 130 = .ok (.iinc 4 1, 3) := by decide +kernel
theorem dX12_couplesWithout_133 : decode cX12_couplesWithout 133 = .ok (.goto (-72), 3) := by decide +kernel
theorem dX12_couplesWithout_136 : decode cX12_couplesWithout 136 = .ok (.iload_n 3, 1) := by decide +kernel
theorem dX12_couplesWithout_137 : decode cX12_couplesWithout 137 = .ok (.ireturn, 1) := by decide +kernel
theorem dX12_hub_0 : decode cX12_hub 0 = .ok (.iconst (-1), 1) := by decide +kernel
theorem dX12_hub_1 : decode cX12_hub 1 = .ok (.istore_n 2, 1) := by decide +kernel
theorem dX12_hub_2 : decode cX12_hub 2 = .ok (.ldc_w 275, 3) := by decide +kernel
theorem dX12_hub_5 : decode cX12_hub 5 = .ok (.istore_n 3, 1) := by decide +kernel
theorem dX12_hub_6 : decode cX12_hub 6 = .ok (.iconst 0, 1) := by decide +kernel
theorem dX12_hub_7 : decode cX12_hub 7 = .ok (.istore 4, 2) := by decide +kernel
theorem dX12_hub_9 : decode cX12_hub 9 = .ok (.iload 4, 2) := by decide +kernel
theorem dX12_hub_11 : decode cX12_hub 11 = .ok (.aload_n 0, 1) := by decide +kernel
theorem dX12_hub_12 : decode cX12_hub 12 = .ok (.getfield 250, 3) := by decide +kernel
theorem dX12_hub_15 : decode cX12_hub 15 = .ok (.if_icmp .ge 37, 3) := by decide +kernel
theorem dX12_hub_18 : decode cX12_hub 18 = .ok (.aload_n 0, 1) := by decide +kernel
theorem dX12_hub_19 : decode cX12_hub 19 = .ok (.iload 4, 2) := by decide +kernel
theorem dX12_hub_21 : decode cX12_hub 21 = .ok (.invokevirtual 460, 3) := by decide +kernel
theorem dX12_hub_24 : decode cX12_hub 24 = .ok (.istore 5, 2) := by decide +kernel
theorem dX12_hub_26 : decode cX12_hub 26 = .ok (.iload 5, 2) := by decide +kernel
theorem dX12_hub_28 : decode cX12_hub 28 = .ok (.iload_n 3, 1) := by decide +kernel
theorem dX12_hub_29 : decode cX12_hub 29 = .ok (.if_icmp .ge 8, 3) := by decide +kernel
theorem dX12_hub_32 : decode cX12_hub 32 = .ok (.iload 4, 2) := by decide +kernel
theorem dX12_hub_34 : decode cX12_hub 34 = .ok (.goto 4, 3) := by decide +kernel
theorem dX12_hub_37 : decode cX12_hub 37 = .ok (.iload_n 2, 1) := by decide +kernel
theorem dX12_hub_38 : decode cX12_hub 38 = .ok (.istore_n 2, 1) := by decide +kernel
theorem dX12_hub_39 : decode cX12_hub 39 = .ok (.iload_n 3, 1) := by decide +kernel
theorem dX12_hub_40 : decode cX12_hub 40 = .ok (.iload 5, 2) := by decide +kernel
theorem dX12_hub_42 : decode cX12_hub 42 = .ok (.invokestatic 279, 3) := by decide +kernel
theorem dX12_hub_45 : decode cX12_hub 45 = .ok (.istore_n 3, 1) := by decide +kernel
theorem dX12_hub_46 : decode cX12_hub 46 = .ok (.iinc 4 1, 3) := by decide +kernel
theorem dX12_hub_49 : decode cX12_hub 49 = .ok (.goto (-40), 3) := by decide +kernel
theorem dX12_hub_52 : decode cX12_hub 52 = .ok (.iload_n 1, 1) := by decide +kernel
theorem dX12_hub_53 : decode cX12_hub 53 = .ok (.ifCond .eq 7, 3) := by decide +kernel
theorem dX12_hub_56 : decode cX12_hub 56 = .ok (.iload_n 3, 1) := by decide +kernel
theorem dX12_hub_57 : decode cX12_hub 57 = .ok (.goto 4, 3) := by decide +kernel
theorem dX12_hub_60 : decode cX12_hub 60 = .ok (.iload_n 2, 1) := by decide +kernel
theorem dX12_hub_61 : decode cX12_hub 61 = .ok (.ireturn, 1) := by decide +kernel
theorem dX12_lands_0 : decode cX12_lands 0 = .ok (.aload_n 0, 1) := by decide +kernel
theorem dX12_lands_1 : decode cX12_lands 1 = .ok (.iconst 0, 1) := by decide +kernel
theorem dX12_lands_2 : decode cX12_lands 2 = .ok (.putfield 96, 3) := by decide +kernel
theorem dX12_lands_5 : decode cX12_lands 5 = .ok (.aload_n 0, 1) := by decide +kernel
theorem dX12_lands_6 : decode cX12_lands 6 = .ok (.iload_n 1, 1) := by decide +kernel
theorem dX12_lands_7 : decode cX12_lands 7 = .ok (.invokevirtual 282, 3) := by decide +kernel
theorem dX12_lands_10 : decode cX12_lands 10 = .ok (.ifCond .ne 5, 3) := by decide +kernel
theorem dX12_lands_13 : decode cX12_lands 13 = .ok (.iconst (-1), 1) := by decide +kernel
theorem dX12_lands_14 : decode cX12_lands 14 = .ok (.ireturn, 1) := by decide +kernel
theorem dX12_lands_15 : decode cX12_lands 15 = .ok (.iload_n 2, 1) := by decide +kernel
theorem dX12_lands_16 : decode cX12_lands 16 = .ok (.bipush 10, 2) := by decide +kernel
theorem dX12_lands_18 : decode cX12_lands 18 = .ok (.if_icmp .lt 27, 3) := by decide +kernel
theorem dX12_lands_21 : decode cX12_lands 21 = .ok (.aload_n 0, 1) := by decide +kernel
theorem dX12_lands_22 : decode cX12_lands 22 = .ok (.iload_n 2, 1) := by decide +kernel
theorem dX12_lands_23 : decode cX12_lands 23 = .ok (.bipush 10, 2) := by decide +kernel
theorem dX12_lands_25 : decode cX12_lands 25 = .ok (.isub, 1) := by decide +kernel
theorem dX12_lands_26 : decode cX12_lands 26 = .ok (.invokevirtual 339, 3) := by decide +kernel
theorem dX12_lands_29 : decode cX12_lands 29 = .ok (.ifCond .eq 14, 3) := by decide +kernel
theorem dX12_lands_32 : decode cX12_lands 32 = .ok (.aload_n 0, 1) := by decide +kernel
theorem dX12_lands_33 : decode cX12_lands 33 = .ok (.iload_n 2, 1) := by decide +kernel
theorem dX12_lands_34 : decode cX12_lands 34 = .ok (.bipush 10, 2) := by decide +kernel
theorem dX12_lands_36 : decode cX12_lands 36 = .ok (.isub, 1) := by decide +kernel
theorem dX12_lands_37 : decode cX12_lands 37 = .ok (.invokevirtual 463, 3) := by decide +kernel
theorem dX12_lands_40 : decode cX12_lands 40 = .ok (.goto 4, 3) := by decide +kernel
theorem dX12_lands_43 : decode cX12_lands 43 = .ok (.iconst (-1), 1) := by decide +kernel
theorem dX12_lands_44 : decode cX12_lands 44 = .ok (.ireturn, 1) := by decide +kernel
theorem dX12_lands_45 : decode cX12_lands 45 = .ok (.iload_n 2, 1) := by decide +kernel
theorem dX12_lands_46 : decode cX12_lands 46 = .ok (.ifCond .ne 10, 3) := by decide +kernel
theorem dX12_lands_49 : decode cX12_lands 49 = .ok (.aload_n 0, 1) := by decide +kernel
theorem dX12_lands_50 : decode cX12_lands 50 = .ok (.invokevirtual 466, 3) := by decide +kernel
theorem dX12_lands_53 : decode cX12_lands 53 = .ok (.goto 31, 3) := by decide +kernel
theorem dX12_lands_56 : decode cX12_lands 56 = .ok (.iload_n 2, 1) := by decide +kernel
theorem dX12_lands_57 : decode cX12_lands 57 = .ok (.iconst 1, 1) := by decide +kernel
theorem dX12_lands_58 : decode cX12_lands 58 = .ok (.if_icmp .eq 8, 3) := by decide +kernel
theorem dX12_lands_61 : decode cX12_lands 61 = .ok (.iload_n 2, 1) := by decide +kernel
theorem dX12_lands_62 : decode cX12_lands 62 = .ok (.iconst 2, 1) := by decide +kernel
theorem dX12_lands_63 : decode cX12_lands 63 = .ok (.if_icmp .ne 20, 3) := by decide +kernel
theorem dX12_lands_66 : decode cX12_lands 66 = .ok (.aload_n 0, 1) := by decide +kernel
theorem dX12_lands_67 : decode cX12_lands 67 = .ok (.iload_n 2, 1) := by decide +kernel
theorem dX12_lands_68 : decode cX12_lands 68 = .ok (.iconst 2, 1) := by decide +kernel
theorem dX12_lands_69 : decode cX12_lands 69 = .ok (.if_icmp .ne 7, 3) := by decide +kernel
theorem dX12_lands_72 : decode cX12_lands 72 = .ok (.iconst 1, 1) := by decide +kernel
theorem dX12_lands_73 : decode cX12_lands 73 = .ok (.goto 4, 3) := by decide +kernel
theorem dX12_lands_76 : decode cX12_lands 76 = .ok (.iconst 0, 1) := by decide +kernel
theorem dX12_lands_77 : decode cX12_lands 77 = .ok (.invokevirtual 469, 3) := by decide +kernel
theorem dX12_lands_80 : decode cX12_lands 80 = .ok (.goto 4, 3) := by decide +kernel
theorem dX12_lands_83 : decode cX12_lands 83 = .ok (.iconst (-1), 1) := by decide +kernel
theorem dX12_lands_84 : decode cX12_lands 84 = .ok (.ireturn, 1) := by decide +kernel
theorem dX12_allSoonest_0 : decode cX12_allSoonest 0 = .ok (.iconst 0, 1) := by decide +kernel
theorem dX12_allSoonest_1 : decode cX12_allSoonest 1 = .ok (.istore_n 2, 1) := by decide +kernel
theorem dX12_allSoonest_2 : decode cX12_allSoonest 2 = .ok (.iconst 0, 1) := by decide +kernel
theorem dX12_allSoonest_3 : decode cX12_allSoonest 3 = .ok (.istore_n 3, 1) := by decide +kernel
theorem dX12_allSoonest_4 : decode cX12_allSoonest 4 = .ok (.iload_n 3, 1) := by decide +kernel
theorem dX12_allSoonest_5 : decode cX12_allSoonest 5 = .ok (.aload_n 0, 1) := by decide +kernel
theorem dX12_allSoonest_6 : decode cX12_allSoonest 6 = .ok (.getfield 250, 3) := by decide +kernel
theorem dX12_allSoonest_9 : decode cX12_allSoonest 9 = .ok (.if_icmp .ge 66, 3) := by decide +kernel
theorem dX12_allSoonest_12 : decode cX12_allSoonest 12 = .ok (.iconst 0, 1) := by decide +kernel
theorem dX12_allSoonest_13 : decode cX12_allSoonest 13 = .ok (.istore 4, 2) := by decide +kernel
theorem dX12_allSoonest_15 : decode cX12_allSoonest 15 = .ok (.iload 4, 2) := by decide +kernel
theorem dX12_allSoonest_17 : decode cX12_allSoonest 17 = .ok (.aload_n 0, 1) := by decide +kernel
theorem dX12_allSoonest_18 : decode cX12_allSoonest 18 = .ok (.getfield 250, 3) := by decide +kernel
theorem dX12_allSoonest_21 : decode cX12_allSoonest 21 = .ok (.if_icmp .ge 48, 3) := by decide +kernel
theorem dX12_allSoonest_24 : decode cX12_allSoonest 24 = .ok (.iload_n 3, 1) := by decide +kernel
theorem dX12_allSoonest_25 : decode cX12_allSoonest 25 = .ok (.iload 4, 2) := by decide +kernel
theorem dX12_allSoonest_27 : decode cX12_allSoonest 27 = .ok (.if_icmp .ne 7, 3) := by decide +kernel
theorem dX12_allSoonest_30 : decode cX12_allSoonest 30 = .ok (.iconst 0, 1) := by decide +kernel
theorem dX12_allSoonest_31 : decode cX12_allSoonest 31 = .ok (.goto 11, 3) := by decide +kernel
theorem dX12_allSoonest_34 : decode cX12_allSoonest 34 = .ok (.aload_n 0, 1) := by decide +kernel
theorem dX12_allSoonest_35 : decode cX12_allSoonest 35 = .ok (.iload_n 3, 1) := by decide +kernel
theorem dX12_allSoonest_36 : decode cX12_allSoonest 36 = .ok (.iload_n 1, 1) := by decide +kernel
theorem dX12_allSoonest_37 : decode cX12_allSoonest 37 = .ok (.iload 4, 2) := by decide +kernel
theorem dX12_allSoonest_39 : decode cX12_allSoonest 39 = .ok (.invokevirtual 342, 3) := by decide +kernel
theorem dX12_allSoonest_42 : decode cX12_allSoonest 42 = .ok (.istore 5, 2) := by decide +kernel
theorem dX12_allSoonest_44 : decode cX12_allSoonest 44 = .ok (.iload_n 2, 1) := by decide +kernel
theorem dX12_allSoonest_45 : decode cX12_allSoonest 45 = .ok (.iload 5, 2) := by decide +kernel
theorem dX12_allSoonest_47 : decode cX12_allSoonest 47 = .ok (.ldc_w 275, 3) := by decide +kernel
theorem dX12_allSoonest_50 : decode cX12_allSoonest 50 = .ok (.if_icmp .lt 9, 3) := by decide +kernel
theorem dX12_allSoonest_53 : decode cX12_allSoonest 53 = .ok (.sipush 999, 3) := by decide +kernel
theorem dX12_allSoonest_56 : decode cX12_allSoonest 56 = .ok (.goto 5, 3) := by decide +kernel
theorem dX12_allSoonest_59 : decode cX12_allSoonest 59 = .ok (.iload 5, 2) := by decide +kernel
theorem dX12_allSoonest_61 : decode cX12_allSoonest 61 = .ok (.iadd, 1) := by decide +kernel
theorem dX12_allSoonest_62 : decode cX12_allSoonest 62 = .ok (.istore_n 2, 1) := by decide +kernel
theorem dX12_allSoonest_63 : decode cX12_allSoonest 63 = .ok (.iinc 4 1, 3) := by decide +kernel
theorem dX12_allSoonest_66 : decode cX12_allSoonest 66 = .ok (.goto (-51), 3) := by decide +kernel
theorem dX12_allSoonest_69 : decode cX12_allSoonest 69 = .ok (.iinc 3 1, 3) := by decide +kernel
theorem dX12_allSoonest_72 : decode cX12_allSoonest 72 = .ok (.goto (-68), 3) := by decide +kernel
theorem dX12_allSoonest_75 : decode cX12_allSoonest 75 = .ok (.iload_n 2, 1) := by decide +kernel
theorem dX12_allSoonest_76 : decode cX12_allSoonest 76 = .ok (.ireturn, 1) := by decide +kernel
theorem dX12_key_0 : decode cX12_key 0 = .ok (.iconst (-1), 1) := by decide +kernel
theorem dX12_key_1 : decode cX12_key 1 = .ok (.istore_n 2, 1) := by decide +kernel
theorem dX12_key_2 : decode cX12_key 2 = .ok (.iconst (-1), 1) := by decide +kernel
theorem dX12_key_3 : decode cX12_key 3 = .ok (.istore_n 3, 1) := by decide +kernel
theorem dX12_key_4 : decode cX12_key 4 = .ok (.iconst 0, 1) := by decide +kernel
theorem dX12_key_5 : decode cX12_key 5 = .ok (.istore 4, 2) := by decide +kernel
theorem dX12_key_7 : decode cX12_key 7 = .ok (.iload 4, 2) := by decide +kernel
theorem dX12_key_9 : decode cX12_key 9 = .ok (.aload_n 0, 1) := by decide +kernel
theorem dX12_key_10 : decode cX12_key 10 = .ok (.getfield 253, 3) := by decide +kernel
theorem dX12_key_13 : decode cX12_key 13 = .ok (.if_icmp .ge 44, 3) := by decide +kernel
theorem dX12_key_16 : decode cX12_key 16 = .ok (.aload_n 0, 1) := by decide +kernel
theorem dX12_key_17 : decode cX12_key 17 = .ok (.iconst 1, 1) := by decide +kernel
theorem dX12_key_18 : decode cX12_key 18 = .ok (.iload 4, 2) := by decide +kernel
theorem dX12_key_20 : decode cX12_key 20 = .ok (.ishl, 1) := by decide +kernel
theorem dX12_key_21 : decode cX12_key 21 = .ok (.invokevirtual 262, 3) := by decide +kernel
theorem dX12_key_24 : decode cX12_key 24 = .ok (.aload_n 0, 1) := by decide +kernel
theorem dX12_key_25 : decode cX12_key 25 = .ok (.iconst 0, 1) := by decide +kernel
theorem dX12_key_26 : decode cX12_key 26 = .ok (.invokevirtual 473, 3) := by decide +kernel
theorem dX12_key_29 : decode cX12_key 29 = .ok (.istore 5, 2) := by decide +kernel
theorem dX12_key_31 : decode cX12_key 31 = .ok (.iload 5, 2) := by decide +kernel
theorem dX12_key_33 : decode cX12_key 33 = .ok (.iload_n 3, 1) := by decide +kernel
theorem dX12_key_34 : decode cX12_key 34 = .ok (.if_icmp .le 8, 3) := by decide +kernel
theorem dX12_key_37 : decode cX12_key 37 = .ok (.iload 4, 2) := by decide +kernel
theorem dX12_key_39 : decode cX12_key 39 = .ok (.goto 4, 3) := by decide +kernel
theorem dX12_key_42 : decode cX12_key 42 = .ok (.iload_n 2, 1) := by decide +kernel
theorem dX12_key_43 : decode cX12_key 43 = .ok (.istore_n 2, 1) := by decide +kernel
theorem dX12_key_44 : decode cX12_key 44 = .ok (.iload_n 3, 1) := by decide +kernel
theorem dX12_key_45 : decode cX12_key 45 = .ok (.iload 5, 2) := by decide +kernel
theorem dX12_key_47 : decode cX12_key 47 = .ok (.invokestatic 170, 3) := by decide +kernel
theorem dX12_key_50 : decode cX12_key 50 = .ok (.istore_n 3, 1) := by decide +kernel
theorem dX12_key_51 : decode cX12_key 51 = .ok (.iinc 4 1, 3) := by decide +kernel
theorem dX12_key_54 : decode cX12_key 54 = .ok (.goto (-47), 3) := by decide +kernel
theorem dX12_key_57 : decode cX12_key 57 = .ok (.iload_n 1, 1) := by decide +kernel
theorem dX12_key_58 : decode cX12_key 58 = .ok (.ifCond .eq 7, 3) := by decide +kernel
theorem dX12_key_61 : decode cX12_key 61 = .ok (.iload_n 3, 1) := by decide +kernel
theorem dX12_key_62 : decode cX12_key 62 = .ok (.goto 4, 3) := by decide +kernel
theorem dX12_key_65 : decode cX12_key 65 = .ok (.iload_n 2, 1) := by decide +kernel
theorem dX12_key_66 : decode cX12_key 66 = .ok (.ireturn, 1) := by decide +kernel
theorem dX12_spares_0 : decode cX12_spares 0 = .ok (.iconst 0, 1) := by decide +kernel
theorem dX12_spares_1 : decode cX12_spares 1 = .ok (.istore_n 1, 1) := by decide +kernel
theorem dX12_spares_2 : decode cX12_spares 2 = .ok (.iconst 0, 1) := by decide +kernel
theorem dX12_spares_3 : decode cX12_spares 3 = .ok (.istore_n 2, 1) := by decide +kernel
theorem dX12_spares_4 : decode cX12_spares 4 = .ok (.iload_n 2, 1) := by decide +kernel
theorem dX12_spares_5 : decode cX12_spares 5 = .ok (.sipush 432, 3) := by decide +kernel
theorem dX12_spares_8 : decode cX12_spares 8 = .ok (.if_icmp .ge 21, 3) := by decide +kernel
theorem dX12_spares_11 : decode cX12_spares 11 = .ok (.aload_n 0, 1) := by decide +kernel
theorem dX12_spares_12 : decode cX12_spares 12 = .ok (.getfield 84, 3) := by decide +kernel
theorem dX12_spares_15 : decode cX12_spares 15 = .ok (.iload_n 2, 1) := by decide +kernel
theorem dX12_spares_16 : decode cX12_spares 16 = .ok (.aload_n 0, 1) := by decide +kernel
theorem dX12_spares_17 : decode cX12_spares 17 = .ok (.getfield 41, 3) := by decide +kernel
theorem dX12_spares_20 : decode cX12_spares 20 = .ok (.iload_n 2, 1) := by decide +kernel
theorem dX12_spares_21 : decode cX12_spares 21 = .ok (.iaload, 1) := by decide +kernel
theorem dX12_spares_22 : decode cX12_spares 22 = .ok (.iastore, 1) := by decide +kernel
theorem dX12_spares_23 : decode cX12_spares 23 = .ok (.iinc 2 1, 3) := by decide +kernel
theorem dX12_spares_26 : decode cX12_spares 26 = .ok (.goto (-22), 3) := by decide +kernel
theorem dX12_spares_29 : decode cX12_spares 29 = .ok (.iconst 0, 1) := by decide +kernel
theorem dX12_spares_30 : decode cX12_spares 30 = .ok (.istore_n 2, 1) := by decide +kernel
theorem dX12_spares_31 : decode cX12_spares 31 = .ok (.iload_n 2, 1) := by decide +kernel
theorem dX12_spares_32 : decode cX12_spares 32 = .ok (.aload_n 0, 1) := by decide +kernel
theorem dX12_spares_33 : decode cX12_spares 33 = .ok (.getfield 253, 3) := by decide +kernel
theorem dX12_spares_36 : decode cX12_spares 36 = .ok (.if_icmp .ge 76, 3) := by decide +kernel
theorem dX12_spares_39 : decode cX12_spares 39 = .ok (.aload_n 0, 1) := by decide +kernel
theorem dX12_spares_40 : decode cX12_spares 40 = .ok (.iconst 1, 1) := by decide +kernel
theorem dX12_spares_41 : decode cX12_spares 41 = .ok (.iload_n 2, 1) := by decide +kernel
theorem dX12_spares_42 : decode cX12_spares 42 = .ok (.ishl, 1) := by decide +kernel
theorem dX12_spares_43 : decode cX12_spares 43 = .ok (.invokevirtual 262, 3) := by decide +kernel
theorem dX12_spares_46 : decode cX12_spares 46 = .ok (.iconst 1, 1) := by decide +kernel
theorem dX12_spares_47 : decode cX12_spares 47 = .ok (.istore_n 3, 1) := by decide +kernel
theorem dX12_spares_48 : decode cX12_spares 48 = .ok (.iconst 0, 1) := by decide +kernel
theorem dX12_spares_49 : decode cX12_spares 49 = .ok (.istore 4, 2) := by decide +kernel
theorem dX12_spares_51 : decode cX12_spares 51 = .ok (.iload 4, 2) := by decide +kernel
theorem dX12_spares_53 : decode cX12_spares 53 = .ok (.sipush 432, 3) := by decide +kernel
theorem dX12_spares_56 : decode cX12_spares 56 = .ok (.if_icmp .ge 36, 3) := by decide +kernel
theorem dX12_spares_59 : decode cX12_spares 59 = .ok (.iload_n 3, 1) := by decide +kernel
theorem dX12_spares_60 : decode cX12_spares 60 = .ok (.ifCond .eq 24, 3) := by decide +kernel
theorem dX12_spares_63 : decode cX12_spares 63 = .ok (.aload_n 0, 1) := by decide +kernel
theorem dX12_spares_64 : decode cX12_spares 64 = .ok (.getfield 84, 3) := by decide +kernel
theorem dX12_spares_67 : decode cX12_spares 67 = .ok (.iload 4, 2) := by decide +kernel
theorem dX12_spares_69 : decode cX12_spares 69 = .ok (.iaload, 1) := by decide +kernel
theorem dX12_spares_70 : decode cX12_spares 70 = .ok (.aload_n 0, 1) := by decide +kernel
theorem dX12_spares_71 : decode cX12_spares 71 = .ok (.getfield 41, 3) := by decide +kernel
theorem dX12_spares_74 : decode cX12_spares 74 = .ok (.iload 4, 2) := by decide +kernel
theorem dX12_spares_76 : decode cX12_spares 76 = .ok (.iaload, 1) := by decide +kernel
theorem dX12_spares_77 : decode cX12_spares 77 = .ok (.if_icmp .ne 7, 3) := by decide +kernel
theorem dX12_spares_80 : decode cX12_spares 80 = .ok (.iconst 1, 1) := by decide +kernel
theorem dX12_spares_81 : decode cX12_spares 81 = .ok (.goto 4, 3) := by decide +kernel
theorem dX12_spares_84 : decode cX12_spares 84 = .ok (.iconst 0, 1) := by decide +kernel
theorem dX12_spares_85 : decode cX12_spares 85 = .ok (.istore_n 3, 1) := by decide +kernel
theorem dX12_spares_86 : decode cX12_spares 86 = .ok (.iinc 4 1, 3) := by decide +kernel
theorem dX12_spares_89 : decode cX12_spares 89 = .ok (.goto (-38), 3) := by decide +kernel
theorem dX12_spares_92 : decode cX12_spares 92 = .ok (.iload_n 1, 1) := by decide +kernel
theorem dX12_spares_93 : decode cX12_spares 93 = .ok (.iload_n 3, 1) := by decide +kernel
theorem dX12_spares_94 : decode cX12_spares 94 = .ok (.ifCond .eq 9, 3) := by decide +kernel
theorem dX12_spares_97 : decode cX12_spares 97 = .ok (.iconst 1, 1) := by decide +kernel
theorem dX12_spares_98 : decode cX12_spares 98 = .ok (.iload_n 2, 1) := by decide +kernel
theorem dX12_spares_99 : decode cX12_spares 99 = .ok (.ishl, 1) := by decide +kernel
theorem dX12_spares_100 : decode cX12_spares 100 = .ok (.goto 4, 3) := by decide +kernel
theorem dX12_spares_103 : decode cX12_spares 103 = .ok (.iconst 0, 1) := by decide +kernel
theorem dX12_spares_104 : decode cX12_spares 104 = .ok (.ior, 1) := by decide +kernel
theorem dX12_spares_105 : decode cX12_spares 105 = .ok (.istore_n 1, 1) := by decide +kernel
theorem dX12_spares_106 : decode cX12_spares 106 = .ok (.iinc 2 1, 3) := by decide +kernel
theorem dX12_spares_109 : decode cX12_spares 109 = .ok (.goto (-78), 3) := by decide +kernel
theorem dX12_spares_112 : decode cX12_spares 112 = .ok (.iload_n 1, 1) := by decide +kernel
theorem dX12_spares_113 : decode cX12_spares 113 = .ok (.ireturn, 1) := by decide +kernel
theorem dX12_trains_0 : decode cX12_trains 0 = .ok (.aload_n 0, 1) := by decide +kernel
theorem dX12_trains_1 : decode cX12_trains 1 = .ok (.iconst 0, 1) := by decide +kernel
theorem dX12_trains_2 : decode cX12_trains 2 = .ok (.putfield 96, 3) := by decide +kernel
theorem dX12_trains_5 : decode cX12_trains 5 = .ok (.aload_n 0, 1) := by decide +kernel
theorem dX12_trains_6 : decode cX12_trains 6 = .ok (.iload_n 1, 1) := by decide +kernel
theorem dX12_trains_7 : decode cX12_trains 7 = .ok (.invokevirtual 282, 3) := by decide +kernel
theorem dX12_trains_10 : decode cX12_trains 10 = .ok (.ifCond .ne 5, 3) := by decide +kernel
theorem dX12_trains_13 : decode cX12_trains 13 = .ok (.iconst (-1), 1) := by decide +kernel
theorem dX12_trains_14 : decode cX12_trains 14 = .ok (.ireturn, 1) := by decide +kernel
theorem dX12_trains_15 : decode cX12_trains 15 = .ok (.iload_n 2, 1) := by decide +kernel
theorem dX12_trains_16 : decode cX12_trains 16 = .ok (.ifCond .eq 8, 3) := by decide +kernel
theorem dX12_trains_19 : decode cX12_trains 19 = .ok (.iload_n 2, 1) := by decide +kernel
theorem dX12_trains_20 : decode cX12_trains 20 = .ok (.iconst 1, 1) := by decide +kernel
theorem dX12_trains_21 : decode cX12_trains 21 = .ok (.if_icmp .ne 20, 3) := by decide +kernel
theorem dX12_trains_24 : decode cX12_trains 24 = .ok (.aload_n 0, 1) := by decide +kernel
theorem dX12_trains_25 : decode cX12_trains 25 = .ok (.iload_n 2, 1) := by decide +kernel
theorem dX12_trains_26 : decode cX12_trains 26 = .ok (.iconst 1, 1) := by decide +kernel
theorem dX12_trains_27 : decode cX12_trains 27 = .ok (.if_icmp .ne 7, 3) := by decide +kernel
theorem dX12_trains_30 : decode cX12_trains 30 = .ok (.iconst 1, 1) := by decide +kernel
theorem dX12_trains_31 : decode cX12_trains 31 = .ok (.goto 4, 3) := by decide +kernel
theorem dX12_trains_34 : decode cX12_trains 34 = .ok (.iconst 0, 1) := by decide +kernel
theorem dX12_trains_35 : decode cX12_trains 35 = .ok (.invokevirtual 476, 3) := by decide +kernel
theorem dX12_trains_38 : decode cX12_trains 38 = .ok (.goto 16, 3) := by decide +kernel
theorem dX12_trains_41 : decode cX12_trains 41 = .ok (.iload_n 2, 1) := by decide +kernel
theorem dX12_trains_42 : decode cX12_trains 42 = .ok (.iconst 2, 1) := by decide +kernel
theorem dX12_trains_43 : decode cX12_trains 43 = .ok (.if_icmp .ne 10, 3) := by decide +kernel
theorem dX12_trains_46 : decode cX12_trains 46 = .ok (.aload_n 0, 1) := by decide +kernel
theorem dX12_trains_47 : decode cX12_trains 47 = .ok (.invokevirtual 479, 3) := by decide +kernel
theorem dX12_trains_50 : decode cX12_trains 50 = .ok (.goto 4, 3) := by decide +kernel
theorem dX12_trains_53 : decode cX12_trains 53 = .ok (.iconst (-1), 1) := by decide +kernel
theorem dX12_trains_54 : decode cX12_trains 54 = .ok (.ireturn, 1) := by decide +kernel
theorem dX12_latest_0 : decode cX12_latest 0 = .ok (.aload_n 0, 1) := by decide +kernel
theorem dX12_latest_1 : decode cX12_latest 1 = .ok (.iconst 0, 1) := by decide +kernel
theorem dX12_latest_2 : decode cX12_latest 2 = .ok (.putfield 96, 3) := by decide +kernel
theorem dX12_latest_5 : decode cX12_latest 5 = .ok (.iload 4, 2) := by decide +kernel
theorem dX12_latest_7 : decode cX12_latest 7 = .ok (.iconst 0, 1) := by decide +kernel
theorem dX12_latest_8 : decode cX12_latest 8 = .ok (.bipush 99, 2) := by decide +kernel
theorem dX12_latest_10 : decode cX12_latest 10 = .ok (.invokestatic 108, 3) := by decide +kernel
theorem dX12_latest_13 : decode cX12_latest 13 = .ok (.ifCond .eq 27, 3) := by decide +kernel
theorem dX12_latest_16 : decode cX12_latest 16 = .ok (.aload_n 0, 1) := by decide +kernel
theorem dX12_latest_17 : decode cX12_latest 17 = .ok (.iload_n 1, 1) := by decide +kernel
theorem dX12_latest_18 : decode cX12_latest 18 = .ok (.invokevirtual 282, 3) := by decide +kernel
theorem dX12_latest_21 : decode cX12_latest 21 = .ok (.ifCond .eq 19, 3) := by decide +kernel
theorem dX12_latest_24 : decode cX12_latest 24 = .ok (.aload_n 0, 1) := by decide +kernel
theorem dX12_latest_25 : decode cX12_latest 25 = .ok (.iload_n 2, 1) := by decide +kernel
theorem dX12_latest_26 : decode cX12_latest 26 = .ok (.invokevirtual 339, 3) := by decide +kernel
theorem dX12_latest_29 : decode cX12_latest 29 = .ok (.ifCond .eq 11, 3) := by decide +kernel
theorem dX12_latest_32 : decode cX12_latest 32 = .ok (.aload_n 0, 1) := by decide +kernel
theorem dX12_latest_33 : decode cX12_latest 33 = .ok (.iload_n 3, 1) := by decide +kernel
theorem dX12_latest_34 : decode cX12_latest 34 = .ok (.invokevirtual 339, 3) := by decide +kernel
theorem dX12_latest_37 : decode cX12_latest 37 = .ok (.ifCond .ne 5, 3) := by decide +kernel
theorem dX12_latest_40 : decode cX12_latest 40 = .ok (.iconst (-1), 1) := by decide +kernel
theorem dX12_latest_41 : decode cX12_latest 41 = .ok (.ireturn, 1) := by decide +kernel
theorem dX12_latest_42 : decode cX12_latest 42 = .ok (.iload 4, 2) := by decide +kernel
theorem dX12_latest_44 : decode cX12_latest 44 = .ok (.istore 5, 2) := by decide +kernel
theorem dX12_latest_46 : decode cX12_latest 46 = .ok (.iload 5, 2) := by decide +kernel
theorem dX12_latest_48 : decode cX12_latest 48 = .ok (.ifCond .lt 25, 3) := by decide +kernel
theorem dX12_latest_51 : decode cX12_latest 51 = .ok (.aload_n 0, 1) := by decide +kernel
theorem dX12_latest_52 : decode cX12_latest 52 = .ok (.iload_n 2, 1) := by decide +kernel
theorem dX12_latest_53 : decode cX12_latest 53 = .ok (.iload 5, 2) := by decide +kernel
theorem dX12_latest_55 : decode cX12_latest 55 = .ok (.iload_n 3, 1) := by decide +kernel
theorem dX12_latest_56 : decode cX12_latest 56 = .ok (.invokevirtual 342, 3) := by decide +kernel
theorem dX12_latest_59 : decode cX12_latest 59 = .ok (.iload 4, 2) := by decide +kernel
theorem dX12_latest_61 : decode cX12_latest 61 = .ok (.if_icmp .gt 6, 3) := by decide +kernel
theorem dX12_latest_64 : decode cX12_latest 64 = .ok (.iload 5, 2) := by decide +kernel
theorem dX12_latest_66 : decode cX12_latest 66 = .ok (.ireturn, 1) := by decide +kernel
theorem dX12_latest_67 : decode cX12_latest 67 = .ok (.iinc 5 (-1), 3) := by decide +kernel
theorem dX12_latest_70 : decode cX12_latest 70 = .ok (.goto (-24), 3) := by decide +kernel
theorem dX12_latest_73 : decode cX12_latest 73 = .ok (.iconst (-1), 1) := by decide +kernel
theorem dX12_latest_74 : decode cX12_latest 74 = .ok (.ireturn, 1) := by decide +kernel
theorem dX12_board_0 : decode cX12_board 0 = .ok (.aload_n 0, 1) := by decide +kernel
theorem dX12_board_1 : decode cX12_board 1 = .ok (.iconst 0, 1) := by decide +kernel
theorem dX12_board_2 : decode cX12_board 2 = .ok (.putfield 96, 3) := by decide +kernel
theorem dX12_board_5 : decode cX12_board 5 = .ok (.iload_n 3, 1) := by decide +kernel
theorem dX12_board_6 : decode cX12_board 6 = .ok (.iconst 0, 1) := by decide +kernel
theorem dX12_board_7 : decode cX12_board 7 = .ok (.bipush 99, 2) := by decide +kernel
theorem dX12_board_9 : decode cX12_board 9 = .ok (.invokestatic 108, 3) := by decide +kernel
theorem dX12_board_12 : decode cX12_board 12 = .ok (.ifCond .eq 19, 3) := by decide +kernel
theorem dX12_board_15 : decode cX12_board 15 = .ok (.aload_n 0, 1) := by decide +kernel
theorem dX12_board_16 : decode cX12_board 16 = .ok (.iload_n 1, 1) := by decide +kernel
theorem dX12_board_17 : decode cX12_board 17 = .ok (.invokevirtual 282, 3) := by decide +kernel
theorem dX12_board_20 : decode cX12_board 20 = .ok (.ifCond .eq 11, 3) := by decide +kernel
theorem dX12_board_23 : decode cX12_board 23 = .ok (.aload_n 0, 1) := by decide +kernel
theorem dX12_board_24 : decode cX12_board 24 = .ok (.iload_n 2, 1) := by decide +kernel
theorem dX12_board_25 : decode cX12_board 25 = .ok (.invokevirtual 339, 3) := by decide +kernel
theorem dX12_board_28 : decode cX12_board 28 = .ok (.ifCond .ne 5, 3) := by decide +kernel
theorem dX12_board_31 : decode cX12_board 31 = .ok (.iconst (-1), 1) := by decide +kernel
theorem dX12_board_32 : decode cX12_board 32 = .ok (.ireturn, 1) := by decide +kernel
theorem dX12_board_33 : decode cX12_board 33 = .ok (.iconst 0, 1) := by decide +kernel
theorem dX12_board_34 : decode cX12_board 34 = .ok (.istore 5, 2) := by decide +kernel
theorem dX12_board_36 : decode cX12_board 36 = .ok (.iload 5, 2) := by decide +kernel
theorem dX12_board_38 : decode cX12_board 38 = .ok (.aload_n 0, 1) := by decide +kernel
theorem dX12_board_39 : decode cX12_board 39 = .ok (.getfield 253, 3) := by decide +kernel
theorem dX12_board_42 : decode cX12_board 42 = .ok (.if_icmp .ge 108, 3) := by decide +kernel
theorem dX12_board_45 : decode cX12_board 45 = .ok (.iconst 0, 1) := by decide +kernel
theorem dX12_board_46 : decode cX12_board 46 = .ok (.istore 6, 2) := by decide +kernel
theorem dX12_board_48 : decode cX12_board 48 = .ok (.iconst 0, 1) := by decide +kernel
theorem dX12_board_49 : decode cX12_board 49 = .ok (.istore 7, 2) := by decide +kernel
theorem dX12_board_51 : decode cX12_board 51 = .ok (.iload 7, 2) := by decide +kernel
theorem dX12_board_53 : decode cX12_board 53 = .ok (.aload_n 0, 1) := by decide +kernel
theorem dX12_board_54 : decode cX12_board 54 = .ok (.getfield 253, 3) := by decide +kernel
theorem dX12_board_57 : decode cX12_board 57 = .ok (.if_icmp .ge 65, 3) := by decide +kernel
theorem dX12_board_60 : decode cX12_board 60 = .ok (.aload_n 0, 1) := by decide +kernel
theorem dX12_board_61 : decode cX12_board 61 = .ok (.iload 7, 2) := by decide +kernel
theorem dX12_board_63 : decode cX12_board 63 = .ok (.iload_n 3, 1) := by decide +kernel
theorem dX12_board_64 : decode cX12_board 64 = .ok (.invokevirtual 265, 3) := by decide +kernel
theorem dX12_board_67 : decode cX12_board 67 = .ok (.aload_n 0, 1) := by decide +kernel
theorem dX12_board_68 : decode cX12_board 68 = .ok (.iload 5, 2) := by decide +kernel
theorem dX12_board_70 : decode cX12_board 70 = .ok (.iload_n 3, 1) := by decide +kernel
theorem dX12_board_71 : decode cX12_board 71 = .ok (.invokevirtual 265, 3) := by decide +kernel
theorem dX12_board_74 : decode cX12_board 74 = .ok (.isub, 1) := by decide +kernel
theorem dX12_board_75 : decode cX12_board 75 = .ok (.istore 8, 2) := by decide +kernel
theorem dX12_board_77 : decode cX12_board 77 = .ok (.iload 6, 2) := by decide +kernel
theorem dX12_board_79 : decode cX12_board 79 = .ok (.aload_n 0, 1) := by decide +kernel
theorem dX12_board_80 : decode cX12_board 80 = .ok (.iconst 5, 1) := by decide +kernel
theorem dX12_board_81 : decode cX12_board 81 = .ok (.iload 7, 2) := by decide +kernel
theorem dX12_board_83 : decode cX12_board 83 = .ok (.iadd, 1) := by decide +kernel
theorem dX12_board_84 : decode cX12_board 84 = .ok (.invokevirtual 246, 3) := by decide +kernel
theorem dX12_board_87 : decode cX12_board 87 = .ok (.iload_n 2, 1) := by decide +kernel
theorem dX12_board_88 : decode cX12_board 88 = .ok (.if_icmp .ne 24, 3) := by decide +kernel
theorem dX12_board_91 : decode cX12_board 91 = .ok (.iload 8, 2) := by decide +kernel
theorem dX12_board_93 : decode cX12_board 93 = .ok (.ifCond .lt 15, 3) := by decide +kernel
theorem dX12_board_96 : decode cX12_board 96 = .ok (.iload 8, 2) := by decide +kernel
theorem dX12_board_98 : decode cX12_board 98 = .ok (.ifCond .ne 14, 3) := by decide +kernel
theorem dX12_board_101 : decode cX12_board 101 = .ok (.iload 7, 2) := by decide +kernel
theorem dX12_board_103 : decode cX12_board 103 = .ok (.iload 5, 2) := by decide +kernel
theorem dX12_board_105 : decode cX12_board 105 = .ok (.if_icmp .ge 7, 3) := by decide +kernel
theorem dX12_board_108 : decode cX12_board 108 = .ok (.iconst 1, 1) := by decide +kernel
theorem dX12_board_109 : decode cX12_board 109 = .ok (.goto 4, 3) := by decide +kernel
theorem dX12_board_112 : decode cX12_board 112 = .ok (.iconst 0, 1) := by decide +kernel
theorem dX12_board_113 : decode cX12_board 113 = .ok (.iadd, 1) := by decide +kernel
theorem dX12_board_114 : decode cX12_board 114 = .ok (.istore 6, 2) := by decide +kernel
theorem dX12_board_116 : decode cX12_board 116 = .ok (.iinc 7 1, 3) := by decide +kernel
theorem dX12_board_119 : decode cX12_board 119 = .ok (.goto (-68), 3) := by decide +kernel
theorem dX12_board_122 : decode cX12_board 122 = .ok (.aload_n 0, 1) := by decide +kernel
theorem dX12_board_123 : decode cX12_board 123 = .ok (.iconst 5, 1) := by decide +kernel
theorem dX12_board_124 : decode cX12_board 124 = .ok (.iload 5, 2) := by decide +kernel
theorem dX12_board_126 : decode cX12_board 126 = .ok (.iadd, 1) := by decide +kernel
theorem dX12_board_127 : decode cX12_board 127 = .ok (.invokevirtual 246, 3) := by decide +kernel
theorem dX12_board_130 : decode cX12_board 130 = .ok (.iload_n 2, 1) := by decide +kernel
theorem dX12_board_131 : decode cX12_board 131 = .ok (.if_icmp .ne 13, 3) := by decide +kernel
theorem dX12_board_134 : decode cX12_board 134 = .ok (.iload 6, 2) := by decide +kernel
theorem dX12_board_136 : decode cX12_board 136 = .ok (.iload 4, 2) := by decide +kernel
theorem dX12_board_138 : decode cX12_board 138 = .ok (.if_icmp .ne 6, 3) := by decide +kernel
theorem dX12_board_141 : decode cX12_board 141 = .ok (.iload 5, 2) := by decide +kernel
theorem dX12_board_143 : decode cX12_board 143 = .ok (.ireturn, 1) := by decide +kernel
theorem dX12_board_144 : decode cX12_board 144 = .ok (.iinc 5 1, 3) := by decide +kernel
theorem dX12_board_147 : decode cX12_board 147 = .ok (.goto (-111), 3) := by decide +kernel
theorem dX12_board_150 : decode cX12_board 150 = .ok (.iconst (-1), 1) := by decide +kernel
theorem dX12_board_151 : decode cX12_board 151 = .ok (.ireturn, 1) := by decide +kernel
theorem dX12_gathered_0 : decode cX12_gathered 0 = .ok (.aload_n 0, 1) := by decide +kernel
theorem dX12_gathered_1 : decode cX12_gathered 1 = .ok (.iconst 0, 1) := by decide +kernel
theorem dX12_gathered_2 : decode cX12_gathered 2 = .ok (.putfield 96, 3) := by decide +kernel
theorem dX12_gathered_5 : decode cX12_gathered 5 = .ok (.aload_n 0, 1) := by decide +kernel
theorem dX12_gathered_6 : decode cX12_gathered 6 = .ok (.iload_n 1, 1) := by decide +kernel
theorem dX12_gathered_7 : decode cX12_gathered 7 = .ok (.invokevirtual 282, 3) := by decide +kernel
theorem dX12_gathered_10 : decode cX12_gathered 10 = .ok (.ifCond .eq 10, 3) := by decide +kernel
theorem dX12_gathered_13 : decode cX12_gathered 13 = .ok (.aload_n 0, 1) := by decide +kernel
theorem dX12_gathered_14 : decode cX12_gathered 14 = .ok (.getfield 259, 3) := by decide +kernel
theorem dX12_gathered_17 : decode cX12_gathered 17 = .ok (.ifCond .ne 5, 3) := by decide +kernel
theorem dX12_gathered_20 : decode cX12_gathered 20 = .ok (.iconst (-1), 1) := by decide +kernel
theorem dX12_gathered_21 : decode cX12_gathered 21 = .ok (.ireturn, 1) := by decide +kernel
theorem dX12_gathered_22 : decode cX12_gathered 22 = .ok (.aload_n 0, 1) := by decide +kernel
theorem dX12_gathered_23 : decode cX12_gathered 23 = .ok (.iconst 1, 1) := by decide +kernel
theorem dX12_gathered_24 : decode cX12_gathered 24 = .ok (.aload_n 0, 1) := by decide +kernel
theorem dX12_gathered_25 : decode cX12_gathered 25 = .ok (.getfield 259, 3) := by decide +kernel
theorem dX12_gathered_28 : decode cX12_gathered 28 = .ok (.ishl, 1) := by decide +kernel
theorem dX12_gathered_29 : decode cX12_gathered 29 = .ok (.iconst 1, 1) := by decide +kernel
theorem dX12_gathered_30 : decode cX12_gathered 30 = .ok (.isub, 1) := by decide +kernel
theorem dX12_gathered_31 : decode cX12_gathered 31 = .ok (.invokevirtual 366, 3) := by decide +kernel
theorem dX12_gathered_34 : decode cX12_gathered 34 = .ok (.istore_n 3, 1) := by decide +kernel
theorem dX12_gathered_35 : decode cX12_gathered 35 = .ok (.iload_n 3, 1) := by decide +kernel
theorem dX12_gathered_36 : decode cX12_gathered 36 = .ok (.ldc_w 275, 3) := by decide +kernel
theorem dX12_gathered_39 : decode cX12_gathered 39 = .ok (.if_icmp .lt 7, 3) := by decide +kernel
theorem dX12_gathered_42 : decode cX12_gathered 42 = .ok (.iconst (-1), 1) := by decide +kernel
theorem dX12_gathered_43 : decode cX12_gathered 43 = .ok (.goto 15, 3) := by decide +kernel
theorem dX12_gathered_46 : decode cX12_gathered 46 = .ok (.iload_n 2, 1) := by decide +kernel
theorem dX12_gathered_47 : decode cX12_gathered 47 = .ok (.ifCond .eq 10, 3) := by decide +kernel
theorem dX12_gathered_50 : decode cX12_gathered 50 = .ok (.aload_n 0, 1) := by decide +kernel
theorem dX12_gathered_51 : decode cX12_gathered 51 = .ok (.getfield 360, 3) := by decide +kernel
theorem dX12_gathered_54 : decode cX12_gathered 54 = .ok (.goto 4, 3) := by decide +kernel
theorem dX12_gathered_57 : decode cX12_gathered 57 = .ok (.iload_n 3, 1) := by decide +kernel
theorem dX12_gathered_58 : decode cX12_gathered 58 = .ok (.ireturn, 1) := by decide +kernel
theorem dX12_ahead_0 : decode cX12_ahead 0 = .ok (.iconst 0, 1) := by decide +kernel
theorem dX12_ahead_1 : decode cX12_ahead 1 = .ok (.istore_n 3, 1) := by decide +kernel
theorem dX12_ahead_2 : decode cX12_ahead 2 = .ok (.iconst 0, 1) := by decide +kernel
theorem dX12_ahead_3 : decode cX12_ahead 3 = .ok (.istore 4, 2) := by decide +kernel
theorem dX12_ahead_5 : decode cX12_ahead 5 = .ok (.iload 4, 2) := by decide +kernel
theorem dX12_ahead_7 : decode cX12_ahead 7 = .ok (.aload_n 0, 1) := by decide +kernel
theorem dX12_ahead_8 : decode cX12_ahead 8 = .ok (.iconst 3, 1) := by decide +kernel
theorem dX12_ahead_9 : decode cX12_ahead 9 = .ok (.invokevirtual 246, 3) := by decide +kernel
theorem dX12_ahead_12 : decode cX12_ahead 12 = .ok (.if_icmp .ge 42, 3) := by decide +kernel
theorem dX12_ahead_15 : decode cX12_ahead 15 = .ok (.iload_n 3, 1) := by decide +kernel
theorem dX12_ahead_16 : decode cX12_ahead 16 = .ok (.aload_n 0, 1) := by decide +kernel
theorem dX12_ahead_17 : decode cX12_ahead 17 = .ok (.bipush 69, 2) := by decide +kernel
theorem dX12_ahead_19 : decode cX12_ahead 19 = .ok (.iload 4, 2) := by decide +kernel
theorem dX12_ahead_21 : decode cX12_ahead 21 = .ok (.iadd, 1) := by decide +kernel
theorem dX12_ahead_22 : decode cX12_ahead 22 = .ok (.invokevirtual 246, 3) := by decide +kernel
theorem dX12_ahead_25 : decode cX12_ahead 25 = .ok (.iload_n 2, 1) := by decide +kernel
theorem dX12_ahead_26 : decode cX12_ahead 26 = .ok (.if_icmp .ne 19, 3) := by decide +kernel
theorem dX12_ahead_29 : decode cX12_ahead 29 = .ok (.iload_n 1, 1) := by decide +kernel
theorem dX12_ahead_30 : decode cX12_ahead 30 = .ok (.iconst 1, 1) := by decide +kernel
theorem dX12_ahead_31 : decode cX12_ahead 31 = .ok (.aload_n 0, 1) := by decide +kernel
theorem dX12_ahead_32 : decode cX12_ahead 32 = .ok (.bipush 75, 2) := by decide +kernel
theorem dX12_ahead_34 : decode cX12_ahead 34 = .ok (.iload 4, 2) := by decide +kernel
theorem dX12_ahead_36 : decode cX12_ahead 36 = .ok (.iadd, 1) := by decide +kernel
theorem dX12_ahead_37 : decode cX12_ahead 37 = .ok (.invokevirtual 246, 3) := by decide +kernel
theorem dX12_ahead_40 : decode cX12_ahead 40 = .ok (.ishl, 1) := by decide +kernel
theorem dX12_ahead_41 : decode cX12_ahead 41 = .ok (.iand, 1) := by decide +kernel
theorem dX12_ahead_42 : decode cX12_ahead 42 = .ok (.goto 4, 3) := by decide +kernel
theorem dX12_ahead_45 : decode cX12_ahead 45 = .ok (.iconst 0, 1) := by decide +kernel
theorem dX12_ahead_46 : decode cX12_ahead 46 = .ok (.ior, 1) := by decide +kernel
theorem dX12_ahead_47 : decode cX12_ahead 47 = .ok (.istore_n 3, 1) := by decide +kernel
theorem dX12_ahead_48 : decode cX12_ahead 48 = .ok (.iinc 4 1, 3) := by decide +kernel
theorem dX12_ahead_51 : decode cX12_ahead 51 = .ok (.goto (-46), 3) := by decide +kernel
theorem dX12_ahead_54 : decode cX12_ahead 54 = .ok (.iload_n 3, 1) := by decide +kernel
theorem dX12_ahead_55 : decode cX12_ahead 55 = .ok (.ireturn, 1) := by decide +kernel
theorem dX12_waysBy_0 : decode cX12_waysBy 0 = .ok (.iload_n 1, 1) := by decide +kernel
theorem dX12_waysBy_1 : decode cX12_waysBy 1 = .ok (.iload_n 3, 1) := by decide +kernel
theorem dX12_waysBy_2 : decode cX12_waysBy 2 = .ok (.invokestatic 100, 3) := by decide +kernel
theorem dX12_waysBy_5 : decode cX12_waysBy 5 = .ok (.ifCond .eq 28, 3) := by decide +kernel
theorem dX12_waysBy_8 : decode cX12_waysBy 8 = .ok (.iload_n 2, 1) := by decide +kernel
theorem dX12_waysBy_9 : decode cX12_waysBy 9 = .ok (.iload_n 3, 1) := by decide +kernel
theorem dX12_waysBy_10 : decode cX12_waysBy 10 = .ok (.invokestatic 100, 3) := by decide +kernel
theorem dX12_waysBy_13 : decode cX12_waysBy 13 = .ok (.ifCond .ne 20, 3) := by decide +kernel
theorem dX12_waysBy_16 : decode cX12_waysBy 16 = .ok (.aload_n 0, 1) := by decide +kernel
theorem dX12_waysBy_17 : decode cX12_waysBy 17 = .ok (.iload_n 1, 1) := by decide +kernel
theorem dX12_waysBy_18 : decode cX12_waysBy 18 = .ok (.iload_n 3, 1) := by decide +kernel
theorem dX12_waysBy_19 : decode cX12_waysBy 19 = .ok (.invokevirtual 482, 3) := by decide +kernel
theorem dX12_waysBy_22 : decode cX12_waysBy 22 = .ok (.iload_n 2, 1) := by decide +kernel
theorem dX12_waysBy_23 : decode cX12_waysBy 23 = .ok (.iconst (-1), 1) := by decide +kernel
theorem dX12_waysBy_24 : decode cX12_waysBy 24 = .ok (.ixor, 1) := by decide +kernel
theorem dX12_waysBy_25 : decode cX12_waysBy 25 = .ok (.iand, 1) := by decide +kernel
theorem dX12_waysBy_26 : decode cX12_waysBy 26 = .ok (.ifCond .ne 7, 3) := by decide +kernel
theorem dX12_waysBy_29 : decode cX12_waysBy 29 = .ok (.iconst 1, 1) := by decide +kernel
theorem dX12_waysBy_30 : decode cX12_waysBy 30 = .ok (.goto 4, 3) := by decide +kernel
theorem dX12_waysBy_33 : decode cX12_waysBy 33 = .ok (.iconst 0, 1) := by decide +kernel
theorem dX12_waysBy_34 : decode cX12_waysBy 34 = .ok (.istore 4, 2) := by decide +kernel
theorem dX12_waysBy_36 : decode cX12_waysBy 36 = .ok (.iload 4, 2) := by decide +kernel
theorem dX12_waysBy_38 : decode cX12_waysBy 38 = .ok (.ifCond .eq 16, 3) := by decide +kernel
theorem dX12_waysBy_41 : decode cX12_waysBy 41 = .ok (.aload_n 0, 1) := by decide +kernel
theorem dX12_waysBy_42 : decode cX12_waysBy 42 = .ok (.getfield 87, 3) := by decide +kernel
theorem dX12_waysBy_45 : decode cX12_waysBy 45 = .ok (.iload_n 2, 1) := by decide +kernel
theorem dX12_waysBy_46 : decode cX12_waysBy 46 = .ok (.iconst 1, 1) := by decide +kernel
theorem dX12_waysBy_47 : decode cX12_waysBy 47 = .ok (.iload_n 3, 1) := by decide +kernel
theorem dX12_waysBy_48 : decode cX12_waysBy 48 = .ok (.ishl, 1) := by decide +kernel
theorem dX12_waysBy_49 : decode cX12_waysBy 49 = .ok (.ior, 1) := by decide +kernel
theorem dX12_waysBy_50 : decode cX12_waysBy 50 = .ok (.iaload, 1) := by decide +kernel
theorem dX12_waysBy_51 : decode cX12_waysBy 51 = .ok (.goto 4, 3) := by decide +kernel
theorem dX12_waysBy_54 : decode cX12_waysBy 54 = .ok (.iconst 0, 1) := by decide +kernel
theorem dX12_waysBy_55 : decode cX12_waysBy 55 = .ok (.ireturn, 1) := by decide +kernel
theorem dX12_findWays_0 : decode cX12_findWays 0 = .ok (.bipush 63, 2) := by decide +kernel
theorem dX12_findWays_2 : decode cX12_findWays 2 = .ok (.istore_n 2, 1) := by decide +kernel
theorem dX12_findWays_3 : decode cX12_findWays 3 = .ok (.iload_n 2, 1) := by decide +kernel
theorem dX12_findWays_4 : decode cX12_findWays 4 = .ok (.ifCond .lt 62, 3) := by decide +kernel
theorem dX12_findWays_7 : decode cX12_findWays 7 = .ok (.iload_n 2, 1) := by decide +kernel
theorem dX12_findWays_8 : decode cX12_findWays 8 = .ok (.iload_n 1, 1) := by decide +kernel
theorem dX12_findWays_9 : decode cX12_findWays 9 = .ok (.if_icmp .ne 7, 3) := by decide +kernel
theorem dX12_findWays_12 : decode cX12_findWays 12 = .ok (.iconst 1, 1) := by decide +kernel
theorem dX12_findWays_13 : decode cX12_findWays 13 = .ok (.goto 4, 3) := by decide +kernel
theorem dX12_findWays_16 : decode cX12_findWays 16 = .ok (.iconst 0, 1) := by decide +kernel
theorem dX12_findWays_17 : decode cX12_findWays 17 = .ok (.istore_n 3, 1) := by decide +kernel
theorem dX12_findWays_18 : decode cX12_findWays 18 = .ok (.iconst 0, 1) := by decide +kernel
theorem dX12_findWays_19 : decode cX12_findWays 19 = .ok (.istore 4, 2) := by decide +kernel
theorem dX12_findWays_21 : decode cX12_findWays 21 = .ok (.iload 4, 2) := by decide +kernel
theorem dX12_findWays_23 : decode cX12_findWays 23 = .ok (.bipush 6, 2) := by decide +kernel
theorem dX12_findWays_25 : decode cX12_findWays 25 = .ok (.if_icmp .ge 28, 3) := by decide +kernel
theorem dX12_findWays_28 : decode cX12_findWays 28 = .ok (.iload_n 2, 1) := by decide +kernel
theorem dX12_findWays_29 : decode cX12_findWays 29 = .ok (.iload_n 1, 1) := by decide +kernel
theorem dX12_findWays_30 : decode cX12_findWays 30 = .ok (.iconst (-1), 1) := by decide +kernel
theorem dX12_findWays_31 : decode cX12_findWays 31 = .ok (.ixor, 1) := by decide +kernel
theorem dX12_findWays_32 : decode cX12_findWays 32 = .ok (.iand, 1) := by decide +kernel
theorem dX12_findWays_33 : decode cX12_findWays 33 = .ok (.ifCond .ne 20, 3) := by decide +kernel
theorem dX12_findWays_36 : decode cX12_findWays 36 = .ok (.iload_n 3, 1) := by decide +kernel
theorem dX12_findWays_37 : decode cX12_findWays 37 = .ok (.aload_n 0, 1) := by decide +kernel
theorem dX12_findWays_38 : decode cX12_findWays 38 = .ok (.iload_n 1, 1) := by decide +kernel
theorem dX12_findWays_39 : decode cX12_findWays 39 = .ok (.iload_n 2, 1) := by decide +kernel
theorem dX12_findWays_40 : decode cX12_findWays 40 = .ok (.iload 4, 2) := by decide +kernel
theorem dX12_findWays_42 : decode cX12_findWays 42 = .ok (.invokevirtual 485, 3) := by decide +kernel
theorem dX12_findWays_45 : decode cX12_findWays 45 = .ok (.iadd, 1) := by decide +kernel
theorem dX12_findWays_46 : decode cX12_findWays 46 = .ok (.istore_n 3, 1) := by decide +kernel
theorem dX12_findWays_47 : decode cX12_findWays 47 = .ok (.iinc 4 1, 3) := by decide +kernel
theorem dX12_findWays_50 : decode cX12_findWays 50 = .ok (.goto (-29), 3) := by decide +kernel
theorem dX12_findWays_53 : decode cX12_findWays 53 = .ok (.aload_n 0, 1) := by decide +kernel
theorem dX12_findWays_54 : decode cX12_findWays 54 = .ok (.getfield 87, 3) := by decide +kernel
theorem dX12_findWays_57 : decode cX12_findWays 57 = .ok (.iload_n 2, 1) := by decide +kernel
theorem dX12_findWays_58 : decode cX12_findWays 58 = .ok (.iload_n 3, 1) := by decide +kernel
theorem dX12_findWays_59 : decode cX12_findWays 59 = .ok (.iastore, 1) := by decide +kernel
theorem dX12_findWays_60 : decode cX12_findWays 60 = .ok (.iinc 2 (-1), 3) := by decide +kernel
theorem dX12_findWays_63 : decode cX12_findWays 63 = .ok (.goto (-60), 3) := by decide +kernel
theorem dX12_findWays_66 : decode cX12_findWays 66 = .ok (.aload_n 0, 1) := by decide +kernel
theorem dX12_findWays_67 : decode cX12_findWays 67 = .ok (.getfield 87, 3) := by decide +kernel
theorem dX12_findWays_70 : decode cX12_findWays 70 = .ok (.iconst 0, 1) := by decide +kernel
theorem dX12_findWays_71 : decode cX12_findWays 71 = .ok (.iaload, 1) := by decide +kernel
theorem dX12_findWays_72 : decode cX12_findWays 72 = .ok (.ireturn, 1) := by decide +kernel
theorem dX12_orderOf_0 : decode cX12_orderOf 0 = .ok (.iconst 0, 1) := by decide +kernel
theorem dX12_orderOf_1 : decode cX12_orderOf 1 = .ok (.istore_n 3, 1) := by decide +kernel
theorem dX12_orderOf_2 : decode cX12_orderOf 2 = .ok (.iconst (-1), 1) := by decide +kernel
theorem dX12_orderOf_3 : decode cX12_orderOf 3 = .ok (.istore 4, 2) := by decide +kernel
theorem dX12_orderOf_5 : decode cX12_orderOf 5 = .ok (.iconst 0, 1) := by decide +kernel
theorem dX12_orderOf_6 : decode cX12_orderOf 6 = .ok (.istore 5, 2) := by decide +kernel
theorem dX12_orderOf_8 : decode cX12_orderOf 8 = .ok (.iload 5, 2) := by decide +kernel
theorem dX12_orderOf_10 : decode cX12_orderOf 10 = .ok (.iload_n 2, 1) := by decide +kernel
theorem dX12_orderOf_11 : decode cX12_orderOf 11 = .ok (.if_icmp .gt 53, 3) := by decide +kernel
theorem dX12_orderOf_14 : decode cX12_orderOf 14 = .ok (.iconst (-1), 1) := by decide +kernel
theorem dX12_orderOf_15 : decode cX12_orderOf 15 = .ok (.istore 4, 2) := by decide +kernel
theorem dX12_orderOf_17 : decode cX12_orderOf 17 = .ok (.iconst 5, 1) := by decide +kernel
theorem dX12_orderOf_18 : decode cX12_orderOf 18 = .ok (.istore 6, 2) := by decide +kernel
theorem dX12_orderOf_20 : decode cX12_orderOf 20 = .ok (.iload 6, 2) := by decide +kernel
theorem dX12_orderOf_22 : decode cX12_orderOf 22 = .ok (.ifCond .lt 29, 3) := by decide +kernel
theorem dX12_orderOf_25 : decode cX12_orderOf 25 = .ok (.aload_n 0, 1) := by decide +kernel
theorem dX12_orderOf_26 : decode cX12_orderOf 26 = .ok (.iload_n 1, 1) := by decide +kernel
theorem dX12_orderOf_27 : decode cX12_orderOf 27 = .ok (.iload_n 3, 1) := by decide +kernel
theorem dX12_orderOf_28 : decode cX12_orderOf 28 = .ok (.iload 6, 2) := by decide +kernel
theorem dX12_orderOf_30 : decode cX12_orderOf 30 = .ok (.invokevirtual 485, 3) := by decide +kernel
theorem dX12_orderOf_33 : decode cX12_orderOf 33 = .ok (.ifCond .le 8, 3) := by decide +kernel
theorem dX12_orderOf_36 : decode cX12_orderOf 36 = .ok (.iload 6, 2) := by decide +kernel
theorem dX12_orderOf_38 : decode cX12_orderOf 38 = .ok (.goto 5, 3) := by decide +kernel
theorem dX12_orderOf_41 : decode cX12_orderOf 41 = .ok (.iload 4, 2) := by decide +kernel
theorem dX12_orderOf_43 : decode cX12_orderOf 43 = .ok (.istore 4, 2) := by decide +kernel
theorem dX12_orderOf_45 : decode cX12_orderOf 45 = .ok (.iinc 6 (-1), 3) := by decide +kernel
theorem dX12_orderOf_48 : decode cX12_orderOf 48 = .ok (.goto (-28), 3) := by decide +kernel
theorem dX12_orderOf_51 : decode cX12_orderOf 51 = .ok (.iload_n 3, 1) := by decide +kernel
theorem dX12_orderOf_52 : decode cX12_orderOf 52 = .ok (.iconst 1, 1) := by decide +kernel
theorem dX12_orderOf_53 : decode cX12_orderOf 53 = .ok (.iload 4, 2) := by decide +kernel
theorem dX12_orderOf_55 : decode cX12_orderOf 55 = .ok (.ishl, 1) := by decide +kernel
theorem dX12_orderOf_56 : decode cX12_orderOf 56 = .ok (.ior, 1) := by decide +kernel
theorem dX12_orderOf_57 : decode cX12_orderOf 57 = .ok (.istore_n 3, 1) := by decide +kernel
theorem dX12_orderOf_58 : decode cX12_orderOf 58 = .ok (.iinc 5 1, 3) := by decide +kernel
theorem dX12_orderOf_61 : decode cX12_orderOf 61 = .ok (.goto (-53), 3) := by decide +kernel
theorem dX12_orderOf_64 : decode cX12_orderOf 64 = .ok (.iload 4, 2) := by decide +kernel
theorem dX12_orderOf_66 : decode cX12_orderOf 66 = .ok (.ireturn, 1) := by decide +kernel
theorem dX12_orders_0 : decode cX12_orders 0 = .ok (.aload_n 0, 1) := by decide +kernel
theorem dX12_orders_1 : decode cX12_orders 1 = .ok (.iconst 0, 1) := by decide +kernel
theorem dX12_orders_2 : decode cX12_orders 2 = .ok (.putfield 96, 3) := by decide +kernel
theorem dX12_orders_5 : decode cX12_orders 5 = .ok (.aload_n 0, 1) := by decide +kernel
theorem dX12_orders_6 : decode cX12_orders 6 = .ok (.iload_n 1, 1) := by decide +kernel
theorem dX12_orders_7 : decode cX12_orders 7 = .ok (.invokevirtual 282, 3) := by decide +kernel
theorem dX12_orders_10 : decode cX12_orders 10 = .ok (.ifCond .eq 11, 3) := by decide +kernel
theorem dX12_orders_13 : decode cX12_orders 13 = .ok (.aload_n 0, 1) := by decide +kernel
theorem dX12_orders_14 : decode cX12_orders 14 = .ok (.iload_n 2, 1) := by decide +kernel
theorem dX12_orders_15 : decode cX12_orders 15 = .ok (.invokevirtual 300, 3) := by decide +kernel
theorem dX12_orders_18 : decode cX12_orders 18 = .ok (.ifCond .ne 5, 3) := by decide +kernel
theorem dX12_orders_21 : decode cX12_orders 21 = .ok (.iconst (-1), 1) := by decide +kernel
theorem dX12_orders_22 : decode cX12_orders 22 = .ok (.ireturn, 1) := by decide +kernel
theorem dX12_orders_23 : decode cX12_orders 23 = .ok (.aload_n 0, 1) := by decide +kernel
theorem dX12_orders_24 : decode cX12_orders 24 = .ok (.bipush 61, 2) := by decide +kernel
theorem dX12_orders_26 : decode cX12_orders 26 = .ok (.iload_n 2, 1) := by decide +kernel
theorem dX12_orders_27 : decode cX12_orders 27 = .ok (.iadd, 1) := by decide +kernel
theorem dX12_orders_28 : decode cX12_orders 28 = .ok (.invokevirtual 246, 3) := by decide +kernel
theorem dX12_orders_31 : decode cX12_orders 31 = .ok (.istore 4, 2) := by decide +kernel
theorem dX12_orders_33 : decode cX12_orders 33 = .ok (.aload_n 0, 1) := by decide +kernel
theorem dX12_orders_34 : decode cX12_orders 34 = .ok (.iload 4, 2) := by decide +kernel
theorem dX12_orders_36 : decode cX12_orders 36 = .ok (.invokevirtual 488, 3) := by decide +kernel
theorem dX12_orders_39 : decode cX12_orders 39 = .ok (.istore 5, 2) := by decide +kernel
theorem dX12_orders_41 : decode cX12_orders 41 = .ok (.iload_n 3, 1) := by decide +kernel
theorem dX12_orders_42 : decode cX12_orders 42 = .ok (.iconst (-1), 1) := by decide +kernel
theorem dX12_orders_43 : decode cX12_orders 43 = .ok (.if_icmp .ne 8, 3) := by decide +kernel
theorem dX12_orders_46 : decode cX12_orders 46 = .ok (.iload 5, 2) := by decide +kernel
theorem dX12_orders_48 : decode cX12_orders 48 = .ok (.goto 34, 3) := by decide +kernel
theorem dX12_orders_51 : decode cX12_orders 51 = .ok (.iload 5, 2) := by decide +kernel
theorem dX12_orders_53 : decode cX12_orders 53 = .ok (.ifCond .le 28, 3) := by decide +kernel
theorem dX12_orders_56 : decode cX12_orders 56 = .ok (.iload_n 3, 1) := by decide +kernel
theorem dX12_orders_57 : decode cX12_orders 57 = .ok (.iconst 0, 1) := by decide +kernel
theorem dX12_orders_58 : decode cX12_orders 58 = .ok (.iload 4, 2) := by decide +kernel
theorem dX12_orders_60 : decode cX12_orders 60 = .ok (.invokestatic 369, 3) := by decide +kernel
theorem dX12_orders_63 : decode cX12_orders 63 = .ok (.iconst 1, 1) := by decide +kernel
theorem dX12_orders_64 : decode cX12_orders 64 = .ok (.isub, 1) := by decide +kernel
theorem dX12_orders_65 : decode cX12_orders 65 = .ok (.invokestatic 108, 3) := by decide +kernel
theorem dX12_orders_68 : decode cX12_orders 68 = .ok (.ifCond .eq 13, 3) := by decide +kernel
theorem dX12_orders_71 : decode cX12_orders 71 = .ok (.aload_n 0, 1) := by decide +kernel
theorem dX12_orders_72 : decode cX12_orders 72 = .ok (.iload 4, 2) := by decide +kernel
theorem dX12_orders_74 : decode cX12_orders 74 = .ok (.iload_n 3, 1) := by decide +kernel
theorem dX12_orders_75 : decode cX12_orders 75 = .ok (.invokevirtual 491, 3) := by decide +kernel
theorem dX12_orders_78 : decode cX12_orders 78 = .ok (.goto 4, 3) := by decide +kernel
theorem dX12_orders_81 : decode cX12_orders 81 = .ok (.iconst (-1), 1) := by decide +kernel
theorem dX12_orders_82 : decode cX12_orders 82 = .ok (.ireturn, 1) := by decide +kernel
theorem dX12_clerkComes_0 : decode cX12_clerkComes 0 = .ok (.ldc_w 275, 3) := by decide +kernel
theorem dX12_clerkComes_3 : decode cX12_clerkComes 3 = .ok (.istore_n 3, 1) := by decide +kernel
theorem dX12_clerkComes_4 : decode cX12_clerkComes 4 = .ok (.iconst 0, 1) := by decide +kernel
theorem dX12_clerkComes_5 : decode cX12_clerkComes 5 = .ok (.istore 4, 2) := by decide +kernel
theorem dX12_clerkComes_7 : decode cX12_clerkComes 7 = .ok (.iload 4, 2) := by decide +kernel
theorem dX12_clerkComes_9 : decode cX12_clerkComes 9 = .ok (.aload_n 0, 1) := by decide +kernel
theorem dX12_clerkComes_10 : decode cX12_clerkComes 10 = .ok (.getfield 259, 3) := by decide +kernel
theorem dX12_clerkComes_13 : decode cX12_clerkComes 13 = .ok (.if_icmp .ge 38, 3) := by decide +kernel
theorem dX12_clerkComes_16 : decode cX12_clerkComes 16 = .ok (.aload_n 0, 1) := by decide +kernel
theorem dX12_clerkComes_17 : decode cX12_clerkComes 17 = .ok (.bipush 81, 2) := by decide +kernel
theorem dX12_clerkComes_19 : decode cX12_clerkComes 19 = .ok (.iload 4, 2) := by decide +kernel
theorem dX12_clerkComes_21 : decode cX12_clerkComes 21 = .ok (.iadd, 1) := by decide +kernel
theorem dX12_clerkComes_22 : decode cX12_clerkComes 22 = .ok (.invokevirtual 246, 3) := by decide +kernel
theorem dX12_clerkComes_25 : decode cX12_clerkComes 25 = .ok (.iload_n 1, 1) := by decide +kernel
theorem dX12_clerkComes_26 : decode cX12_clerkComes 26 = .ok (.if_icmp .ne 17, 3) := by decide +kernel
theorem dX12_clerkComes_29 : decode cX12_clerkComes 29 = .ok (.iload_n 3, 1) := by decide +kernel
theorem dX12_clerkComes_30 : decode cX12_clerkComes 30 = .ok (.aload_n 0, 1) := by decide +kernel
theorem dX12_clerkComes_31 : decode cX12_clerkComes 31 = .ok (.iload 4, 2) := by decide +kernel
theorem dX12_clerkComes_33 : decode cX12_clerkComes 33 = .ok (.iload_n 2, 1) := by decide +kernel
theorem dX12_clerkComes_34 : decode cX12_clerkComes 34 = .ok (.invokevirtual 363, 3) := by decide +kernel
theorem dX12_clerkComes_37 : decode cX12_clerkComes 37 = .ok (.invokestatic 279, 3) := by decide +kernel
theorem dX12_clerkComes_40 : decode cX12_clerkComes 40 = .ok (.goto 4, 3) := by decide +kernel
theorem dX12_clerkComes_43 : decode cX12_clerkComes 43 = .ok (.iload_n 3, 1) := by decide +kernel
theorem dX12_clerkComes_44 : decode cX12_clerkComes 44 = .ok (.istore_n 3, 1) := by decide +kernel
theorem dX12_clerkComes_45 : decode cX12_clerkComes 45 = .ok (.iinc 4 1, 3) := by decide +kernel
theorem dX12_clerkComes_48 : decode cX12_clerkComes 48 = .ok (.goto (-41), 3) := by decide +kernel
theorem dX12_clerkComes_51 : decode cX12_clerkComes 51 = .ok (.iload_n 3, 1) := by decide +kernel
theorem dX12_clerkComes_52 : decode cX12_clerkComes 52 = .ok (.ireturn, 1) := by decide +kernel
theorem dX12_lackSet_0 : decode cX12_lackSet 0 = .ok (.iconst 0, 1) := by decide +kernel
theorem dX12_lackSet_1 : decode cX12_lackSet 1 = .ok (.istore_n 3, 1) := by decide +kernel
theorem dX12_lackSet_2 : decode cX12_lackSet 2 = .ok (.iconst 0, 1) := by decide +kernel
theorem dX12_lackSet_3 : decode cX12_lackSet 3 = .ok (.istore 4, 2) := by decide +kernel
theorem dX12_lackSet_5 : decode cX12_lackSet 5 = .ok (.iload 4, 2) := by decide +kernel
theorem dX12_lackSet_7 : decode cX12_lackSet 7 = .ok (.aload_n 0, 1) := by decide +kernel
theorem dX12_lackSet_8 : decode cX12_lackSet 8 = .ok (.getfield 250, 3) := by decide +kernel
theorem dX12_lackSet_11 : decode cX12_lackSet 11 = .ok (.if_icmp .ge 42, 3) := by decide +kernel
theorem dX12_lackSet_14 : decode cX12_lackSet 14 = .ok (.iload_n 3, 1) := by decide +kernel
theorem dX12_lackSet_15 : decode cX12_lackSet 15 = .ok (.iload_n 1, 1) := by decide +kernel
theorem dX12_lackSet_16 : decode cX12_lackSet 16 = .ok (.iload 4, 2) := by decide +kernel
theorem dX12_lackSet_18 : decode cX12_lackSet 18 = .ok (.invokestatic 100, 3) := by decide +kernel
theorem dX12_lackSet_21 : decode cX12_lackSet 21 = .ok (.ifCond .eq 23, 3) := by decide +kernel
theorem dX12_lackSet_24 : decode cX12_lackSet 24 = .ok (.aload_n 0, 1) := by decide +kernel
theorem dX12_lackSet_25 : decode cX12_lackSet 25 = .ok (.iload 4, 2) := by decide +kernel
theorem dX12_lackSet_27 : decode cX12_lackSet 27 = .ok (.iload_n 2, 1) := by decide +kernel
theorem dX12_lackSet_28 : decode cX12_lackSet 28 = .ok (.invokevirtual 494, 3) := by decide +kernel
theorem dX12_lackSet_31 : decode cX12_lackSet 31 = .ok (.ldc_w 275, 3) := by decide +kernel
theorem dX12_lackSet_34 : decode cX12_lackSet 34 = .ok (.if_icmp .lt 10, 3) := by decide +kernel
theorem dX12_lackSet_37 : decode cX12_lackSet 37 = .ok (.iconst 1, 1) := by decide +kernel
theorem dX12_lackSet_38 : decode cX12_lackSet 38 = .ok (.iload 4, 2) := by decide +kernel
theorem dX12_lackSet_40 : decode cX12_lackSet 40 = .ok (.ishl, 1) := by decide +kernel
theorem dX12_lackSet_41 : decode cX12_lackSet 41 = .ok (.goto 4, 3) := by decide +kernel
theorem dX12_lackSet_44 : decode cX12_lackSet 44 = .ok (.iconst 0, 1) := by decide +kernel
theorem dX12_lackSet_45 : decode cX12_lackSet 45 = .ok (.ior, 1) := by decide +kernel
theorem dX12_lackSet_46 : decode cX12_lackSet 46 = .ok (.istore_n 3, 1) := by decide +kernel
theorem dX12_lackSet_47 : decode cX12_lackSet 47 = .ok (.iinc 4 1, 3) := by decide +kernel
theorem dX12_lackSet_50 : decode cX12_lackSet 50 = .ok (.goto (-45), 3) := by decide +kernel
theorem dX12_lackSet_53 : decode cX12_lackSet 53 = .ok (.iload_n 3, 1) := by decide +kernel
theorem dX12_lackSet_54 : decode cX12_lackSet 54 = .ok (.ireturn, 1) := by decide +kernel
theorem dX12_readyIn_0 : decode cX12_readyIn 0 = .ok (.aload_n 0, 1) := by decide +kernel
theorem dX12_readyIn_1 : decode cX12_readyIn 1 = .ok (.iload_n 1, 1) := by decide +kernel
theorem dX12_readyIn_2 : decode cX12_readyIn 2 = .ok (.iload_n 2, 1) := by decide +kernel
theorem dX12_readyIn_3 : decode cX12_readyIn 3 = .ok (.invokevirtual 497, 3) := by decide +kernel
theorem dX12_readyIn_6 : decode cX12_readyIn 6 = .ok (.ifCond .ne 11, 3) := by decide +kernel
theorem dX12_readyIn_9 : decode cX12_readyIn 9 = .ok (.aload_n 0, 1) := by decide +kernel
theorem dX12_readyIn_10 : decode cX12_readyIn 10 = .ok (.iload_n 1, 1) := by decide +kernel
theorem dX12_readyIn_11 : decode cX12_readyIn 11 = .ok (.invokevirtual 488, 3) := by decide +kernel
theorem dX12_readyIn_14 : decode cX12_readyIn 14 = .ok (.ifCond .ne 7, 3) := by decide +kernel
theorem dX12_readyIn_17 : decode cX12_readyIn 17 = .ok (.ldc_w 275, 3) := by decide +kernel
theorem dX12_readyIn_20 : decode cX12_readyIn 20 = .ok (.ireturn, 1) := by decide +kernel
theorem dX12_readyIn_21 : decode cX12_readyIn 21 = .ok (.iconst 0, 1) := by decide +kernel
theorem dX12_readyIn_22 : decode cX12_readyIn 22 = .ok (.istore_n 3, 1) := by decide +kernel
theorem dX12_readyIn_23 : decode cX12_readyIn 23 = .ok (.iconst 0, 1) := by decide +kernel
theorem dX12_readyIn_24 : decode cX12_readyIn 24 = .ok (.istore 4, 2) := by decide +kernel
theorem dX12_readyIn_26 : decode cX12_readyIn 26 = .ok (.iconst 0, 1) := by decide +kernel
theorem dX12_readyIn_27 : decode cX12_readyIn 27 = .ok (.istore 5, 2) := by decide +kernel
theorem dX12_readyIn_29 : decode cX12_readyIn 29 = .ok (.iload 5, 2) := by decide +kernel
theorem dX12_readyIn_31 : decode cX12_readyIn 31 = .ok (.iload_n 1, 1) := by decide +kernel
theorem dX12_readyIn_32 : decode cX12_readyIn 32 = .ok (.invokestatic 369, 3) := by decide +kernel
theorem dX12_readyIn_35 : decode cX12_readyIn 35 = .ok (.if_icmp .ge 169, 3) := by decide +kernel
theorem dX12_readyIn_38 : decode cX12_readyIn 38 = .ok (.iconst (-1), 1) := by decide +kernel
theorem dX12_readyIn_39 : decode cX12_readyIn 39 = .ok (.istore 6, 2) := by decide +kernel
theorem dX12_readyIn_41 : decode cX12_readyIn 41 = .ok (.iconst 0, 1) := by decide +kernel
theorem dX12_readyIn_42 : decode cX12_readyIn 42 = .ok (.istore 7, 2) := by decide +kernel
theorem dX12_readyIn_44 : decode cX12_readyIn 44 = .ok (.iload 7, 2) := by decide +kernel
theorem dX12_readyIn_46 : decode cX12_readyIn 46 = .ok (.bipush 6, 2) := by decide +kernel
theorem dX12_readyIn_48 : decode cX12_readyIn 48 = .ok (.if_icmp .ge 50, 3) := by decide +kernel
theorem dX12_readyIn_51 : decode cX12_readyIn 51 = .ok (.iload_n 1, 1) := by decide +kernel
theorem dX12_readyIn_52 : decode cX12_readyIn 52 = .ok (.iload 7, 2) := by decide +kernel
theorem dX12_readyIn_54 : decode cX12_readyIn 54 = .ok (.invokestatic 100, 3) := by decide +kernel
theorem dX12_readyIn_57 : decode cX12_readyIn 57 = .ok (.ifCond .eq 31, 3) := by decide +kernel
theorem dX12_readyIn_60 : decode cX12_readyIn 60 = .ok (.iload_n 3, 1) := by decide +kernel
theorem dX12_readyIn_61 : decode cX12_readyIn 61 = .ok (.iload 7, 2) := by decide +kernel
theorem dX12_readyIn_63 : decode cX12_readyIn 63 = .ok (.invokestatic 100, 3) := by decide +kernel
theorem dX12_readyIn_66 : decode cX12_readyIn 66 = .ok (.ifCond .ne 22, 3) := by decide +kernel
theorem dX12_readyIn_69 : decode cX12_readyIn 69 = .ok (.aload_n 0, 1) := by decide +kernel
theorem dX12_readyIn_70 : decode cX12_readyIn 70 = .ok (.iload_n 1, 1) := by decide +kernel
theorem dX12_readyIn_71 : decode cX12_readyIn 71 = .ok (.iload 7, 2) := by decide +kernel
theorem dX12_readyIn_73 : decode cX12_readyIn 73 = .ok (.invokevirtual 482, 3) := by decide +kernel
theorem dX12_readyIn_76 : decode cX12_readyIn 76 = .ok (.iload_n 3, 1) := by decide +kernel
theorem dX12_readyIn_77 : decode cX12_readyIn 77 = .ok (.iconst (-1), 1) := by decide +kernel
theorem dX12_readyIn_78 : decode cX12_readyIn 78 = .ok (.ixor, 1) := by decide +kernel
theorem dX12_readyIn_79 : decode cX12_readyIn 79 = .ok (.iand, 1) := by decide +kernel
theorem dX12_readyIn_80 : decode cX12_readyIn 80 = .ok (.ifCond .ne 8, 3) := by decide +kernel
theorem dX12_readyIn_83 : decode cX12_readyIn 83 = .ok (.iload 7, 2) := by decide +kernel
theorem dX12_readyIn_85 : decode cX12_readyIn 85 = .ok (.goto 5, 3) := by decide +kernel
theorem dX12_readyIn_88 : decode cX12_readyIn 88 = .ok (.iload 6, 2) := by decide +kernel
theorem dX12_readyIn_90 : decode cX12_readyIn 90 = .ok (.istore 6, 2) := by decide +kernel
theorem dX12_readyIn_92 : decode cX12_readyIn 92 = .ok (.iinc 7 1, 3) := by decide +kernel
theorem dX12_readyIn_95 : decode cX12_readyIn 95 = .ok (.goto (-51), 3) := by decide +kernel
theorem dX12_readyIn_98 : decode cX12_readyIn 98 = .ok (.aload_n 0, 1) := by decide +kernel
theorem dX12_readyIn_99 : decode cX12_readyIn 99 = .ok (.getfield 90, 3) := by decide +kernel
theorem dX12_readyIn_102 : decode cX12_readyIn 102 = .ok (.iload 6, 2) := by decide +kernel
theorem dX12_readyIn_104 : decode cX12_readyIn 104 = .ok (.aload_n 0, 1) := by decide +kernel
theorem dX12_readyIn_105 : decode cX12_readyIn 105 = .ok (.iload 6, 2) := by decide +kernel
theorem dX12_readyIn_107 : decode cX12_readyIn 107 = .ok (.iload_n 2, 1) := by decide +kernel
theorem dX12_readyIn_108 : decode cX12_readyIn 108 = .ok (.invokevirtual 494, 3) := by decide +kernel
theorem dX12_readyIn_111 : decode cX12_readyIn 111 = .ok (.iastore, 1) := by decide +kernel
theorem dX12_readyIn_112 : decode cX12_readyIn 112 = .ok (.iconst 0, 1) := by decide +kernel
theorem dX12_readyIn_113 : decode cX12_readyIn 113 = .ok (.istore 7, 2) := by decide +kernel
theorem dX12_readyIn_115 : decode cX12_readyIn 115 = .ok (.iload 7, 2) := by decide +kernel
theorem dX12_readyIn_117 : decode cX12_readyIn 117 = .ok (.bipush 6, 2) := by decide +kernel
theorem dX12_readyIn_119 : decode cX12_readyIn 119 = .ok (.if_icmp .ge 58, 3) := by decide +kernel
theorem dX12_readyIn_122 : decode cX12_readyIn 122 = .ok (.aload_n 0, 1) := by decide +kernel
theorem dX12_readyIn_123 : decode cX12_readyIn 123 = .ok (.getfield 90, 3) := by decide +kernel
theorem dX12_readyIn_126 : decode cX12_readyIn 126 = .ok (.iload 6, 2) := by decide +kernel
theorem dX12_readyIn_128 : decode cX12_readyIn 128 = .ok (.aload_n 0, 1) := by decide +kernel
theorem dX12_readyIn_129 : decode cX12_readyIn 129 = .ok (.iload_n 1, 1) := by decide +kernel
theorem dX12_readyIn_130 : decode cX12_readyIn 130 = .ok (.iload 6, 2) := by decide +kernel
theorem dX12_readyIn_132 : decode cX12_readyIn 132 = .ok (.invokevirtual 482, 3) := by decide +kernel
theorem dX12_readyIn_135 : decode cX12_readyIn 135 = .ok (.iload 7, 2) := by decide +kernel
theorem dX12_readyIn_137 : decode cX12_readyIn 137 = .ok (.invokestatic 100, 3) := by decide +kernel
theorem dX12_readyIn_140 : decode cX12_readyIn 140 = .ok (.ifCond .eq 23, 3) := by decide +kernel
theorem dX12_readyIn_143 : decode cX12_readyIn 143 = .ok (.aload_n 0, 1) := by decide +kernel
theorem dX12_readyIn_144 : decode cX12_readyIn 144 = .ok (.getfield 90, 3) := by decide +kernel
theorem dX12_readyIn_147 : decode cX12_readyIn 147 = .ok (.iload 6, 2) := by decide +kernel
theorem dX12_readyIn_149 : decode cX12_readyIn 149 = .ok (.iaload, 1) := by decide +kernel
theorem dX12_readyIn_150 : decode cX12_readyIn 150 = .ok (.aload_n 0, 1) := by decide +kernel
theorem dX12_readyIn_151 : decode cX12_readyIn 151 = .ok (.getfield 90, 3) := by decide +kernel
theorem dX12_readyIn_154 : decode cX12_readyIn 154 = .ok (.iload 7, 2) := by decide +kernel
theorem dX12_readyIn_156 : decode cX12_readyIn 156 = .ok (.iaload, 1) := by decide +kernel
theorem dX12_readyIn_157 : decode cX12_readyIn 157 = .ok (.invokestatic 170, 3) := by decide +kernel
theorem dX12_readyIn_160 : decode cX12_readyIn 160 = .ok (.goto 10, 3) := by decide +kernel
theorem dX12_readyIn_163 : decode cX12_readyIn 163 = .ok (.aload_n 0, 1) := by decide +kernel
theorem dX12_readyIn_164 : decode cX12_readyIn 164 = .ok (.getfield 90, 3) := by decide +kernel
theorem dX12_readyIn_167 : decode cX12_readyIn 167 = .ok (.iload 6, 2) := by decide +kernel
theorem dX12_readyIn_169 : decode cX12_readyIn 169 = .ok (.iaload, 1) := by decide +kernel
theorem dX12_readyIn_170 : decode cX12_readyIn 170 = .ok (.iastore, 1) := by decide +kernel
theorem dX12_readyIn_171 : decode cX12_readyIn 171 = .ok (.iinc 7 1, 3) := by decide +kernel
theorem dX12_readyIn_174 : decode cX12_readyIn 174 = .ok (.goto (-59), 3) := by decide +kernel
theorem dX12_readyIn_177 : decode cX12_readyIn 177 = .ok (.iload_n 3, 1) := by decide +kernel
theorem dX12_readyIn_178 : decode cX12_readyIn 178 = .ok (.iconst 1, 1) := by decide +kernel
theorem dX12_readyIn_179 : decode cX12_readyIn 179 = .ok (.iload 6, 2) := by decide +kernel
theorem dX12_readyIn_181 : decode cX12_readyIn 181 = .ok (.ishl, 1) := by decide +kernel
theorem dX12_readyIn_182 : decode cX12_readyIn 182 = .ok (.ior, 1) := by decide +kernel
theorem dX12_readyIn_183 : decode cX12_readyIn 183 = .ok (.istore_n 3, 1) := by decide +kernel
theorem dX12_readyIn_184 : decode cX12_readyIn 184 = .ok (.iload 4, 2) := by decide +kernel
theorem dX12_readyIn_186 : decode cX12_readyIn 186 = .ok (.aload_n 0, 1) := by decide +kernel
theorem dX12_readyIn_187 : decode cX12_readyIn 187 = .ok (.getfield 90, 3) := by decide +kernel
theorem dX12_readyIn_190 : decode cX12_readyIn 190 = .ok (.iload 6, 2) := by decide +kernel
theorem dX12_readyIn_192 : decode cX12_readyIn 192 = .ok (.iaload, 1) := by decide +kernel
theorem dX12_readyIn_193 : decode cX12_readyIn 193 = .ok (.invokestatic 170, 3) := by decide +kernel
theorem dX12_readyIn_196 : decode cX12_readyIn 196 = .ok (.istore 4, 2) := by decide +kernel
theorem dX12_readyIn_198 : decode cX12_readyIn 198 = .ok (.iinc 5 1, 3) := by decide +kernel
theorem dX12_readyIn_201 : decode cX12_readyIn 201 = .ok (.goto (-172), 3) := by decide +kernel
theorem dX12_readyIn_204 : decode cX12_readyIn 204 = .ok (.iload 4, 2) := by decide +kernel
theorem dX12_readyIn_206 : decode cX12_readyIn 206 = .ok (.ireturn, 1) := by decide +kernel
theorem dX12_lacks_0 : decode cX12_lacks 0 = .ok (.aload_n 0, 1) := by decide +kernel
theorem dX12_lacks_1 : decode cX12_lacks 1 = .ok (.iconst 0, 1) := by decide +kernel
theorem dX12_lacks_2 : decode cX12_lacks 2 = .ok (.putfield 96, 3) := by decide +kernel
theorem dX12_lacks_5 : decode cX12_lacks 5 = .ok (.aload_n 0, 1) := by decide +kernel
theorem dX12_lacks_6 : decode cX12_lacks 6 = .ok (.iload_n 1, 1) := by decide +kernel
theorem dX12_lacks_7 : decode cX12_lacks 7 = .ok (.invokevirtual 282, 3) := by decide +kernel
theorem dX12_lacks_10 : decode cX12_lacks 10 = .ok (.ifCond .eq 11, 3) := by decide +kernel
theorem dX12_lacks_13 : decode cX12_lacks 13 = .ok (.aload_n 0, 1) := by decide +kernel
theorem dX12_lacks_14 : decode cX12_lacks 14 = .ok (.iload_n 2, 1) := by decide +kernel
theorem dX12_lacks_15 : decode cX12_lacks 15 = .ok (.invokevirtual 300, 3) := by decide +kernel
theorem dX12_lacks_18 : decode cX12_lacks 18 = .ok (.ifCond .ne 5, 3) := by decide +kernel
theorem dX12_lacks_21 : decode cX12_lacks 21 = .ok (.iconst (-1), 1) := by decide +kernel
theorem dX12_lacks_22 : decode cX12_lacks 22 = .ok (.ireturn, 1) := by decide +kernel
theorem dX12_lacks_23 : decode cX12_lacks 23 = .ok (.aload_n 0, 1) := by decide +kernel
theorem dX12_lacks_24 : decode cX12_lacks 24 = .ok (.bipush 61, 2) := by decide +kernel
theorem dX12_lacks_26 : decode cX12_lacks 26 = .ok (.iload_n 2, 1) := by decide +kernel
theorem dX12_lacks_27 : decode cX12_lacks 27 = .ok (.iadd, 1) := by decide +kernel
theorem dX12_lacks_28 : decode cX12_lacks 28 = .ok (.invokevirtual 246, 3) := by decide +kernel
theorem dX12_lacks_31 : decode cX12_lacks 31 = .ok (.istore 4, 2) := by decide +kernel
theorem dX12_lacks_33 : decode cX12_lacks 33 = .ok (.iload_n 3, 1) := by decide +kernel
theorem dX12_lacks_34 : decode cX12_lacks 34 = .ok (.ifCond .ne 18, 3) := by decide +kernel
theorem dX12_lacks_37 : decode cX12_lacks 37 = .ok (.aload_n 0, 1) := by decide +kernel
theorem dX12_lacks_38 : decode cX12_lacks 38 = .ok (.iload 4, 2) := by decide +kernel
theorem dX12_lacks_40 : decode cX12_lacks 40 = .ok (.aload_n 0, 1) := by decide +kernel
theorem dX12_lacks_41 : decode cX12_lacks 41 = .ok (.bipush 53, 2) := by decide +kernel
theorem dX12_lacks_43 : decode cX12_lacks 43 = .ok (.iload_n 2, 1) := by decide +kernel
theorem dX12_lacks_44 : decode cX12_lacks 44 = .ok (.iadd, 1) := by decide +kernel
theorem dX12_lacks_45 : decode cX12_lacks 45 = .ok (.invokevirtual 246, 3) := by decide +kernel
theorem dX12_lacks_48 : decode cX12_lacks 48 = .ok (.invokevirtual 497, 3) := by decide +kernel
theorem dX12_lacks_51 : decode cX12_lacks 51 = .ok (.ireturn, 1) := by decide +kernel
theorem dX12_lacks_52 : decode cX12_lacks 52 = .ok (.aload_n 0, 1) := by decide +kernel
theorem dX12_lacks_53 : decode cX12_lacks 53 = .ok (.iload 4, 2) := by decide +kernel
theorem dX12_lacks_55 : decode cX12_lacks 55 = .ok (.aload_n 0, 1) := by decide +kernel
theorem dX12_lacks_56 : decode cX12_lacks 56 = .ok (.bipush 53, 2) := by decide +kernel
theorem dX12_lacks_58 : decode cX12_lacks 58 = .ok (.iload_n 2, 1) := by decide +kernel
theorem dX12_lacks_59 : decode cX12_lacks 59 = .ok (.iadd, 1) := by decide +kernel
theorem dX12_lacks_60 : decode cX12_lacks 60 = .ok (.invokevirtual 246, 3) := by decide +kernel
theorem dX12_lacks_63 : decode cX12_lacks 63 = .ok (.invokevirtual 500, 3) := by decide +kernel
theorem dX12_lacks_66 : decode cX12_lacks 66 = .ok (.istore 5, 2) := by decide +kernel
theorem dX12_lacks_68 : decode cX12_lacks 68 = .ok (.iload 5, 2) := by decide +kernel
theorem dX12_lacks_70 : decode cX12_lacks 70 = .ok (.ldc_w 275, 3) := by decide +kernel
theorem dX12_lacks_73 : decode cX12_lacks 73 = .ok (.if_icmp .lt 7, 3) := by decide +kernel
theorem dX12_lacks_76 : decode cX12_lacks 76 = .ok (.iconst (-1), 1) := by decide +kernel
theorem dX12_lacks_77 : decode cX12_lacks 77 = .ok (.goto 5, 3) := by decide +kernel
theorem dX12_lacks_80 : decode cX12_lacks 80 = .ok (.iload 5, 2) := by decide +kernel
theorem dX12_lacks_82 : decode cX12_lacks 82 = .ok (.ireturn, 1) := by decide +kernel
theorem dX12_ledge_0 : decode cX12_ledge 0 = .ok (.aload_n 0, 1) := by decide +kernel
theorem dX12_ledge_1 : decode cX12_ledge 1 = .ok (.iconst 0, 1) := by decide +kernel
theorem dX12_ledge_2 : decode cX12_ledge 2 = .ok (.putfield 96, 3) := by decide +kernel
theorem dX12_ledge_5 : decode cX12_ledge 5 = .ok (.aload_n 0, 1) := by decide +kernel
theorem dX12_ledge_6 : decode cX12_ledge 6 = .ok (.iload_n 1, 1) := by decide +kernel
theorem dX12_ledge_7 : decode cX12_ledge 7 = .ok (.invokevirtual 282, 3) := by decide +kernel
theorem dX12_ledge_10 : decode cX12_ledge 10 = .ok (.ifCond .eq 11, 3) := by decide +kernel
theorem dX12_ledge_13 : decode cX12_ledge 13 = .ok (.aload_n 0, 1) := by decide +kernel
theorem dX12_ledge_14 : decode cX12_ledge 14 = .ok (.iload_n 2, 1) := by decide +kernel
theorem dX12_ledge_15 : decode cX12_ledge 15 = .ok (.invokevirtual 300, 3) := by decide +kernel
theorem dX12_ledge_18 : decode cX12_ledge 18 = .ok (.ifCond .ne 5, 3) := by decide +kernel
theorem dX12_ledge_21 : decode cX12_ledge 21 = .ok (.iconst (-1), 1) := by decide +kernel
theorem dX12_ledge_22 : decode cX12_ledge 22 = .ok (.ireturn, 1) := by decide +kernel
theorem dX12_ledge_23 : decode cX12_ledge 23 = .ok (.aload_n 0, 1) := by decide +kernel
theorem dX12_ledge_24 : decode cX12_ledge 24 = .ok (.bipush 61, 2) := by decide +kernel
theorem dX12_ledge_26 : decode cX12_ledge 26 = .ok (.iload_n 2, 1) := by decide +kernel
theorem dX12_ledge_27 : decode cX12_ledge 27 = .ok (.iadd, 1) := by decide +kernel
theorem dX12_ledge_28 : decode cX12_ledge 28 = .ok (.invokevirtual 246, 3) := by decide +kernel
theorem dX12_ledge_31 : decode cX12_ledge 31 = .ok (.istore 4, 2) := by decide +kernel
theorem dX12_ledge_33 : decode cX12_ledge 33 = .ok (.iconst (-1), 1) := by decide +kernel
theorem dX12_ledge_34 : decode cX12_ledge 34 = .ok (.istore 5, 2) := by decide +kernel
theorem dX12_ledge_36 : decode cX12_ledge 36 = .ok (.ldc_w 275, 3) := by decide +kernel
theorem dX12_ledge_39 : decode cX12_ledge 39 = .ok (.istore 6, 2) := by decide +kernel
theorem dX12_ledge_41 : decode cX12_ledge 41 = .ok (.iconst 0, 1) := by decide +kernel
theorem dX12_ledge_42 : decode cX12_ledge 42 = .ok (.istore 7, 2) := by decide +kernel
theorem dX12_ledge_44 : decode cX12_ledge 44 = .ok (.iload 7, 2) := by decide +kernel
theorem dX12_ledge_46 : decode cX12_ledge 46 = .ok (.aload_n 0, 1) := by decide +kernel
theorem dX12_ledge_47 : decode cX12_ledge 47 = .ok (.getfield 250, 3) := by decide +kernel
theorem dX12_ledge_50 : decode cX12_ledge 50 = .ok (.if_icmp .ge 60, 3) := by decide +kernel
theorem dX12_ledge_53 : decode cX12_ledge 53 = .ok (.iload 4, 2) := by decide +kernel
theorem dX12_ledge_55 : decode cX12_ledge 55 = .ok (.iload 7, 2) := by decide +kernel
theorem dX12_ledge_57 : decode cX12_ledge 57 = .ok (.invokestatic 100, 3) := by decide +kernel
theorem dX12_ledge_60 : decode cX12_ledge 60 = .ok (.ifCond .eq 9, 3) := by decide +kernel
theorem dX12_ledge_63 : decode cX12_ledge 63 = .ok (.ldc_w 275, 3) := by decide +kernel
theorem dX12_ledge_66 : decode cX12_ledge 66 = .ok (.goto 11, 3) := by decide +kernel
theorem dX12_ledge_69 : decode cX12_ledge 69 = .ok (.aload_n 0, 1) := by decide +kernel
theorem dX12_ledge_70 : decode cX12_ledge 70 = .ok (.iload 4, 2) := by decide +kernel
theorem dX12_ledge_72 : decode cX12_ledge 72 = .ok (.iload 7, 2) := by decide +kernel
theorem dX12_ledge_74 : decode cX12_ledge 74 = .ok (.invokevirtual 500, 3) := by decide +kernel
theorem dX12_ledge_77 : decode cX12_ledge 77 = .ok (.istore 8, 2) := by decide +kernel
theorem dX12_ledge_79 : decode cX12_ledge 79 = .ok (.iload 8, 2) := by decide +kernel
theorem dX12_ledge_81 : decode cX12_ledge 81 = .ok (.iload 6, 2) := by decide +kernel
theorem dX12_ledge_83 : decode cX12_ledge 83 = .ok (.if_icmp .ge 8, 3) := by decide +kernel
theorem dX12_ledge_86 : decode cX12_ledge 86 = .ok (.iload 7, 2) := by decide +kernel
theorem dX12_ledge_88 : decode cX12_ledge 88 = .ok (.goto 5, 3) := by decide +kernel
theorem dX12_ledge_91 : decode cX12_ledge 91 = .ok (.iload 5, 2) := by decide +kernel
theorem dX12_ledge_93 : decode cX12_ledge 93 = .ok (.istore 5, 2) := by decide +kernel
theorem dX12_ledge_95 : decode cX12_ledge 95 = .ok (.iload 6, 2) := by decide +kernel
theorem dX12_ledge_97 : decode cX12_ledge 97 = .ok (.iload 8, 2) := by decide +kernel
theorem dX12_ledge_99 : decode cX12_ledge 99 = .ok (.invokestatic 279, 3) := by decide +kernel
theorem dX12_ledge_102 : decode cX12_ledge 102 = .ok (.istore 6, 2) := by decide +kernel
theorem dX12_ledge_104 : decode cX12_ledge 104 = .ok (.iinc 7 1, 3) := by decide +kernel
theorem dX12_ledge_107 : decode cX12_ledge 107 = .ok (.goto (-63), 3) := by decide +kernel
theorem dX12_ledge_110 : decode cX12_ledge 110 = .ok (.iload 5, 2) := by decide +kernel
theorem dX12_ledge_112 : decode cX12_ledge 112 = .ok (.iconst (-1), 1) := by decide +kernel
theorem dX12_ledge_113 : decode cX12_ledge 113 = .ok (.if_icmp .eq 7, 3) := by decide +kernel
theorem dX12_ledge_116 : decode cX12_ledge 116 = .ok (.iload_n 3, 1) := by decide +kernel
theorem dX12_ledge_117 : decode cX12_ledge 117 = .ok (.ifCond .ne 8, 3) := by decide +kernel
theorem dX12_ledge_120 : decode cX12_ledge 120 = .ok (.iload 5, 2) := by decide +kernel
theorem dX12_ledge_122 : decode cX12_ledge 122 = .ok (.goto 5, 3) := by decide +kernel
theorem dX12_ledge_125 : decode cX12_ledge 125 = .ok (.iload 6, 2) := by decide +kernel
theorem dX12_ledge_127 : decode cX12_ledge 127 = .ok (.ireturn, 1) := by decide +kernel
theorem dX12_busy_0 : decode cX12_busy 0 = .ok (.aload_n 0, 1) := by decide +kernel
theorem dX12_busy_1 : decode cX12_busy 1 = .ok (.iconst 0, 1) := by decide +kernel
theorem dX12_busy_2 : decode cX12_busy 2 = .ok (.putfield 96, 3) := by decide +kernel
theorem dX12_busy_5 : decode cX12_busy 5 = .ok (.aload_n 0, 1) := by decide +kernel
theorem dX12_busy_6 : decode cX12_busy 6 = .ok (.iload_n 1, 1) := by decide +kernel
theorem dX12_busy_7 : decode cX12_busy 7 = .ok (.invokevirtual 282, 3) := by decide +kernel
theorem dX12_busy_10 : decode cX12_busy 10 = .ok (.ifCond .ne 6, 3) := by decide +kernel
theorem dX12_busy_13 : decode cX12_busy 13 = .ok (.bipush (-2), 2) := by decide +kernel
theorem dX12_busy_15 : decode cX12_busy 15 = .ok (.ireturn, 1) := by decide +kernel
theorem dX12_busy_16 : decode cX12_busy 16 = .ok (.iconst (-1), 1) := by decide +kernel
theorem dX12_busy_17 : decode cX12_busy 17 = .ok (.istore_n 3, 1) := by decide +kernel
theorem dX12_busy_18 : decode cX12_busy 18 = .ok (.iconst 0, 1) := by decide +kernel
theorem dX12_busy_19 : decode cX12_busy 19 = .ok (.istore 4, 2) := by decide +kernel
theorem dX12_busy_21 : decode cX12_busy 21 = .ok (.iconst 0, 1) := by decide +kernel
theorem dX12_busy_22 : decode cX12_busy 22 = .ok (.istore 5, 2) := by decide +kernel
theorem dX12_busy_24 : decode cX12_busy 24 = .ok (.iload 5, 2) := by decide +kernel
theorem dX12_busy_26 : decode cX12_busy 26 = .ok (.aload_n 0, 1) := by decide +kernel
theorem dX12_busy_27 : decode cX12_busy 27 = .ok (.getfield 250, 3) := by decide +kernel
theorem dX12_busy_30 : decode cX12_busy 30 = .ok (.if_icmp .ge 80, 3) := by decide +kernel
theorem dX12_busy_33 : decode cX12_busy 33 = .ok (.iconst 0, 1) := by decide +kernel
theorem dX12_busy_34 : decode cX12_busy 34 = .ok (.istore 6, 2) := by decide +kernel
theorem dX12_busy_36 : decode cX12_busy 36 = .ok (.iconst 0, 1) := by decide +kernel
theorem dX12_busy_37 : decode cX12_busy 37 = .ok (.istore 7, 2) := by decide +kernel
theorem dX12_busy_39 : decode cX12_busy 39 = .ok (.iload 7, 2) := by decide +kernel
theorem dX12_busy_41 : decode cX12_busy 41 = .ok (.aload_n 0, 1) := by decide +kernel
theorem dX12_busy_42 : decode cX12_busy 42 = .ok (.getfield 256, 3) := by decide +kernel
theorem dX12_busy_45 : decode cX12_busy 45 = .ok (.if_icmp .ge 36, 3) := by decide +kernel
theorem dX12_busy_48 : decode cX12_busy 48 = .ok (.iload 6, 2) := by decide +kernel
theorem dX12_busy_50 : decode cX12_busy 50 = .ok (.aload_n 0, 1) := by decide +kernel
theorem dX12_busy_51 : decode cX12_busy 51 = .ok (.bipush 61, 2) := by decide +kernel
theorem dX12_busy_53 : decode cX12_busy 53 = .ok (.iload 7, 2) := by decide +kernel
theorem dX12_busy_55 : decode cX12_busy 55 = .ok (.iadd, 1) := by decide +kernel
theorem dX12_busy_56 : decode cX12_busy 56 = .ok (.invokevirtual 246, 3) := by decide +kernel
theorem dX12_busy_59 : decode cX12_busy 59 = .ok (.iload 5, 2) := by decide +kernel
theorem dX12_busy_61 : decode cX12_busy 61 = .ok (.invokestatic 100, 3) := by decide +kernel
theorem dX12_busy_64 : decode cX12_busy 64 = .ok (.ifCond .eq 7, 3) := by decide +kernel
theorem dX12_busy_67 : decode cX12_busy 67 = .ok (.iconst 1, 1) := by decide +kernel
theorem dX12_busy_68 : decode cX12_busy 68 = .ok (.goto 4, 3) := by decide +kernel
theorem dX12_busy_71 : decode cX12_busy 71 = .ok (.iconst 0, 1) := by decide +kernel
theorem dX12_busy_72 : decode cX12_busy 72 = .ok (.iadd, 1) := by decide +kernel
theorem dX12_busy_73 : decode cX12_busy 73 = .ok (.istore 6, 2) := by decide +kernel
theorem dX12_busy_75 : decode cX12_busy 75 = .ok (.iinc 7 1, 3) := by decide +kernel
theorem dX12_busy_78 : decode cX12_busy 78 = .ok (.goto (-39), 3) := by decide +kernel
theorem dX12_busy_81 : decode cX12_busy 81 = .ok (.iload 6, 2) := by decide +kernel
theorem dX12_busy_83 : decode cX12_busy 83 = .ok (.iload 4, 2) := by decide +kernel
theorem dX12_busy_85 : decode cX12_busy 85 = .ok (.if_icmp .le 8, 3) := by decide +kernel
theorem dX12_busy_88 : decode cX12_busy 88 = .ok (.iload 5, 2) := by decide +kernel
theorem dX12_busy_90 : decode cX12_busy 90 = .ok (.goto 4, 3) := by decide +kernel
theorem dX12_busy_93 : decode cX12_busy 93 = .ok (.iload_n 3, 1) := by decide +kernel
theorem dX12_busy_94 : decode cX12_busy 94 = .ok (.istore_n 3, 1) := by decide +kernel
theorem dX12_busy_95 : decode cX12_busy 95 = .ok (.iload 4, 2) := by decide +kernel
theorem dX12_busy_97 : decode cX12_busy 97 = .ok (.iload 6, 2) := by decide +kernel
theorem dX12_busy_99 : decode cX12_busy 99 = .ok (.invokestatic 170, 3) := by decide +kernel
theorem dX12_busy_102 : decode cX12_busy 102 = .ok (.istore 4, 2) := by decide +kernel
theorem dX12_busy_104 : decode cX12_busy 104 = .ok (.iinc 5 1, 3) := by decide +kernel
theorem dX12_busy_107 : decode cX12_busy 107 = .ok (.goto (-83), 3) := by decide +kernel
theorem dX12_busy_110 : decode cX12_busy 110 = .ok (.iload_n 2, 1) := by decide +kernel
theorem dX12_busy_111 : decode cX12_busy 111 = .ok (.ifCond .eq 8, 3) := by decide +kernel
theorem dX12_busy_114 : decode cX12_busy 114 = .ok (.iload 4, 2) := by decide +kernel
theorem dX12_busy_116 : decode cX12_busy 116 = .ok (.goto 4, 3) := by decide +kernel
theorem dX12_busy_119 : decode cX12_busy 119 = .ok (.iload_n 3, 1) := by decide +kernel
theorem dX12_busy_120 : decode cX12_busy 120 = .ok (.ireturn, 1) := by decide +kernel
theorem dX12_certain_0 : decode cX12_certain 0 = .ok (.aload_n 0, 1) := by decide +kernel
theorem dX12_certain_1 : decode cX12_certain 1 = .ok (.iconst 0, 1) := by decide +kernel
theorem dX12_certain_2 : decode cX12_certain 2 = .ok (.putfield 96, 3) := by decide +kernel
theorem dX12_certain_5 : decode cX12_certain 5 = .ok (.aload_n 0, 1) := by decide +kernel
theorem dX12_certain_6 : decode cX12_certain 6 = .ok (.iload_n 1, 1) := by decide +kernel
theorem dX12_certain_7 : decode cX12_certain 7 = .ok (.iload_n 2, 1) := by decide +kernel
theorem dX12_certain_8 : decode cX12_certain 8 = .ok (.invokevirtual 447, 3) := by decide +kernel
theorem dX12_certain_11 : decode cX12_certain 11 = .ok (.ifCond .ne 6, 3) := by decide +kernel
theorem dX12_certain_14 : decode cX12_certain 14 = .ok (.bipush (-2), 2) := by decide +kernel
theorem dX12_certain_16 : decode cX12_certain 16 = .ok (.ireturn, 1) := by decide +kernel
theorem dX12_certain_17 : decode cX12_certain 17 = .ok (.iconst (-1), 1) := by decide +kernel
theorem dX12_certain_18 : decode cX12_certain 18 = .ok (.istore 4, 2) := by decide +kernel
theorem dX12_certain_20 : decode cX12_certain 20 = .ok (.iconst 0, 1) := by decide +kernel
theorem dX12_certain_21 : decode cX12_certain 21 = .ok (.istore 5, 2) := by decide +kernel
theorem dX12_certain_23 : decode cX12_certain 23 = .ok (.iconst 0, 1) := by decide +kernel
theorem dX12_certain_24 : decode cX12_certain 24 = .ok (.istore 6, 2) := by decide +kernel
theorem dX12_certain_26 : decode cX12_certain 26 = .ok (.iconst 0, 1) := by decide +kernel
theorem dX12_certain_27 : decode cX12_certain 27 = .ok (.istore 7, 2) := by decide +kernel
theorem dX12_certain_29 : decode cX12_certain 29 = .ok (.iload 7, 2) := by decide +kernel
theorem dX12_certain_31 : decode cX12_certain 31 = .ok (.bipush 99, 2) := by decide +kernel
theorem dX12_certain_33 : decode cX12_certain 33 = .ok (.if_icmp .gt 93, 3) := by decide +kernel
theorem dX12_certain_36 : decode cX12_certain 36 = .ok (.aload_n 0, 1) := by decide +kernel
theorem dX12_certain_37 : decode cX12_certain 37 = .ok (.iload 7, 2) := by decide +kernel
theorem dX12_certain_39 : decode cX12_certain 39 = .ok (.invokevirtual 444, 3) := by decide +kernel
theorem dX12_certain_42 : decode cX12_certain 42 = .ok (.istore 8, 2) := by decide +kernel
theorem dX12_certain_44 : decode cX12_certain 44 = .ok (.iload 8, 2) := by decide +kernel
theorem dX12_certain_46 : decode cX12_certain 46 = .ok (.invokestatic 369, 3) := by decide +kernel
theorem dX12_certain_49 : decode cX12_certain 49 = .ok (.iconst 1, 1) := by decide +kernel
theorem dX12_certain_50 : decode cX12_certain 50 = .ok (.if_icmp .eq 7, 3) := by decide +kernel
theorem dX12_certain_53 : decode cX12_certain 53 = .ok (.iconst 0, 1) := by decide +kernel
theorem dX12_certain_54 : decode cX12_certain 54 = .ok (.goto 34, 3) := by decide +kernel
theorem dX12_certain_57 : decode cX12_certain 57 = .ok (.iload 7, 2) := by decide +kernel
theorem dX12_certain_59 : decode cX12_certain 59 = .ok (.ifCond .le 28, 3) := by decide +kernel
theorem dX12_certain_62 : decode cX12_certain 62 = .ok (.iload 6, 2) := by decide +kernel
theorem dX12_certain_64 : decode cX12_certain 64 = .ok (.ifCond .le 23, 3) := by decide +kernel
theorem dX12_certain_67 : decode cX12_certain 67 = .ok (.iload 8, 2) := by decide +kernel
theorem dX12_certain_69 : decode cX12_certain 69 = .ok (.aload_n 0, 1) := by decide +kernel
theorem dX12_certain_70 : decode cX12_certain 70 = .ok (.iload 7, 2) := by decide +kernel
theorem dX12_certain_72 : decode cX12_certain 72 = .ok (.iconst 1, 1) := by decide +kernel
theorem dX12_certain_73 : decode cX12_certain 73 = .ok (.isub, 1) := by decide +kernel
theorem dX12_certain_74 : decode cX12_certain 74 = .ok (.invokevirtual 444, 3) := by decide +kernel
theorem dX12_certain_77 : decode cX12_certain 77 = .ok (.if_icmp .ne 10, 3) := by decide +kernel
theorem dX12_certain_80 : decode cX12_certain 80 = .ok (.iload 6, 2) := by decide +kernel
theorem dX12_certain_82 : decode cX12_certain 82 = .ok (.iconst 1, 1) := by decide +kernel
theorem dX12_certain_83 : decode cX12_certain 83 = .ok (.iadd, 1) := by decide +kernel
theorem dX12_certain_84 : decode cX12_certain 84 = .ok (.goto 4, 3) := by decide +kernel
theorem dX12_certain_87 : decode cX12_certain 87 = .ok (.iconst 1, 1) := by decide +kernel
theorem dX12_certain_88 : decode cX12_certain 88 = .ok (.istore 6, 2) := by decide +kernel
theorem dX12_certain_90 : decode cX12_certain 90 = .ok (.iload 6, 2) := by decide +kernel
theorem dX12_certain_92 : decode cX12_certain 92 = .ok (.iload 5, 2) := by decide +kernel
theorem dX12_certain_94 : decode cX12_certain 94 = .ok (.if_icmp .le 13, 3) := by decide +kernel
theorem dX12_certain_97 : decode cX12_certain 97 = .ok (.iload 7, 2) := by decide +kernel
theorem dX12_certain_99 : decode cX12_certain 99 = .ok (.iconst 1, 1) := by decide +kernel
theorem dX12_certain_100 : decode cX12_certain 100 = .ok (.iadd, 1) := by decide +kernel
theorem dX12_certain_101 : decode cX12_certain 101 = .ok (.iload 6, 2) := by decide +kernel
theorem dX12_certain_103 : decode cX12_certain 103 = .ok (.isub, 1) := by decide +kernel
theorem dX12_certain_104 : decode cX12_certain 104 = .ok (.goto 5, 3) := by decide +kernel
theorem dX12_certain_107 : decode cX12_certain 107 = .ok (.iload 4, 2) := by decide +kernel
theorem dX12_certain_109 : decode cX12_certain 109 = .ok (.istore 4, 2) := by decide +kernel
theorem dX12_certain_111 : decode cX12_certain 111 = .ok (.iload 5, 2) := by decide +kernel
theorem dX12_certain_113 : decode cX12_certain 113 = .ok (.iload 6, 2) := by decide +kernel
theorem dX12_certain_115 : decode cX12_certain 115 = .ok (.invokestatic 170, 3) := by decide +kernel
theorem dX12_certain_118 : decode cX12_certain 118 = .ok (.istore 5, 2) := by decide +kernel
theorem dX12_certain_120 : decode cX12_certain 120 = .ok (.iinc 7 1, 3) := by decide +kernel
theorem dX12_certain_123 : decode cX12_certain 123 = .ok (.goto (-94), 3) := by decide +kernel
theorem dX12_certain_126 : decode cX12_certain 126 = .ok (.iload_n 3, 1) := by decide +kernel
theorem dX12_certain_127 : decode cX12_certain 127 = .ok (.ifCond .eq 8, 3) := by decide +kernel
theorem dX12_certain_130 : decode cX12_certain 130 = .ok (.iload 4, 2) := by decide +kernel
theorem dX12_certain_132 : decode cX12_certain 132 = .ok (.goto 5, 3) := by decide +kernel
theorem dX12_certain_135 : decode cX12_certain 135 = .ok (.iload 5, 2) := by decide +kernel
theorem dX12_certain_137 : decode cX12_certain 137 = .ok (.ireturn, 1) := by decide +kernel
theorem dX12_stuck_0 : decode cX12_stuck 0 = .ok (.aload_n 0, 1) := by decide +kernel
theorem dX12_stuck_1 : decode cX12_stuck 1 = .ok (.iconst 0, 1) := by decide +kernel
theorem dX12_stuck_2 : decode cX12_stuck 2 = .ok (.putfield 96, 3) := by decide +kernel
theorem dX12_stuck_5 : decode cX12_stuck 5 = .ok (.aload_n 0, 1) := by decide +kernel
theorem dX12_stuck_6 : decode cX12_stuck 6 = .ok (.iload_n 1, 1) := by decide +kernel
theorem dX12_stuck_7 : decode cX12_stuck 7 = .ok (.invokevirtual 282, 3) := by decide +kernel
theorem dX12_stuck_10 : decode cX12_stuck 10 = .ok (.ifCond .ne 5, 3) := by decide +kernel
theorem dX12_stuck_13 : decode cX12_stuck 13 = .ok (.iconst (-1), 1) := by decide +kernel
theorem dX12_stuck_14 : decode cX12_stuck 14 = .ok (.ireturn, 1) := by decide +kernel
theorem dX12_stuck_15 : decode cX12_stuck 15 = .ok (.iconst 0, 1) := by decide +kernel
theorem dX12_stuck_16 : decode cX12_stuck 16 = .ok (.istore_n 2, 1) := by decide +kernel
theorem dX12_stuck_17 : decode cX12_stuck 17 = .ok (.iconst 0, 1) := by decide +kernel
theorem dX12_stuck_18 : decode cX12_stuck 18 = .ok (.istore_n 3, 1) := by decide +kernel
theorem dX12_stuck_19 : decode cX12_stuck 19 = .ok (.iload_n 3, 1) := by decide +kernel
theorem dX12_stuck_20 : decode cX12_stuck 20 = .ok (.aload_n 0, 1) := by decide +kernel
theorem dX12_stuck_21 : decode cX12_stuck 21 = .ok (.getfield 256, 3) := by decide +kernel
theorem dX12_stuck_24 : decode cX12_stuck 24 = .ok (.if_icmp .ge 34, 3) := by decide +kernel
theorem dX12_stuck_27 : decode cX12_stuck 27 = .ok (.iload_n 2, 1) := by decide +kernel
theorem dX12_stuck_28 : decode cX12_stuck 28 = .ok (.aload_n 0, 1) := by decide +kernel
theorem dX12_stuck_29 : decode cX12_stuck 29 = .ok (.aload_n 0, 1) := by decide +kernel
theorem dX12_stuck_30 : decode cX12_stuck 30 = .ok (.bipush 61, 2) := by decide +kernel
theorem dX12_stuck_32 : decode cX12_stuck 32 = .ok (.iload_n 3, 1) := by decide +kernel
theorem dX12_stuck_33 : decode cX12_stuck 33 = .ok (.iadd, 1) := by decide +kernel
theorem dX12_stuck_34 : decode cX12_stuck 34 = .ok (.invokevirtual 246, 3) := by decide +kernel
theorem dX12_stuck_37 : decode cX12_stuck 37 = .ok (.invokevirtual 488, 3) := by decide +kernel
theorem dX12_stuck_40 : decode cX12_stuck 40 = .ok (.ifCond .ne 9, 3) := by decide +kernel
theorem dX12_stuck_43 : decode cX12_stuck 43 = .ok (.iconst 1, 1) := by decide +kernel
theorem dX12_stuck_44 : decode cX12_stuck 44 = .ok (.iload_n 3, 1) := by decide +kernel
theorem dX12_stuck_45 : decode cX12_stuck 45 = .ok (.ishl, 1) := by decide +kernel
theorem dX12_stuck_46 : decode cX12_stuck 46 = .ok (.goto 4, 3) := by decide +kernel
theorem dX12_stuck_49 : decode cX12_stuck 49 = .ok (.iconst 0, 1) := by decide +kernel
theorem dX12_stuck_50 : decode cX12_stuck 50 = .ok (.ior, 1) := by decide +kernel
theorem dX12_stuck_51 : decode cX12_stuck 51 = .ok (.istore_n 2, 1) := by decide +kernel
theorem dX12_stuck_52 : decode cX12_stuck 52 = .ok (.iinc 3 1, 3) := by decide +kernel
theorem dX12_stuck_55 : decode cX12_stuck 55 = .ok (.goto (-36), 3) := by decide +kernel
theorem dX12_stuck_58 : decode cX12_stuck 58 = .ok (.iload_n 2, 1) := by decide +kernel
theorem dX12_stuck_59 : decode cX12_stuck 59 = .ok (.ireturn, 1) := by decide +kernel
theorem dX12_after_0 : decode cX12_after 0 = .ok (.aload_n 0, 1) := by decide +kernel
theorem dX12_after_1 : decode cX12_after 1 = .ok (.iconst 0, 1) := by decide +kernel
theorem dX12_after_2 : decode cX12_after 2 = .ok (.putfield 96, 3) := by decide +kernel
theorem dX12_after_5 : decode cX12_after 5 = .ok (.aload_n 0, 1) := by decide +kernel
theorem dX12_after_6 : decode cX12_after 6 = .ok (.iload_n 1, 1) := by decide +kernel
theorem dX12_after_7 : decode cX12_after 7 = .ok (.iload_n 2, 1) := by decide +kernel
theorem dX12_after_8 : decode cX12_after 8 = .ok (.invokevirtual 327, 3) := by decide +kernel
theorem dX12_after_11 : decode cX12_after 11 = .ok (.ifCond .ne 6, 3) := by decide +kernel
theorem dX12_after_14 : decode cX12_after 14 = .ok (.bipush (-2), 2) := by decide +kernel
theorem dX12_after_16 : decode cX12_after 16 = .ok (.ireturn, 1) := by decide +kernel
theorem dX12_after_17 : decode cX12_after 17 = .ok (.aload_n 0, 1) := by decide +kernel
theorem dX12_after_18 : decode cX12_after 18 = .ok (.invokevirtual 321, 3) := by decide +kernel
theorem dX12_after_21 : decode cX12_after 21 = .ok (.aload_n 0, 1) := by decide +kernel
theorem dX12_after_22 : decode cX12_after 22 = .ok (.invokevirtual 333, 3) := by decide +kernel
theorem dX12_after_25 : decode cX12_after 25 = .ok (.istore 4, 2) := by decide +kernel
theorem dX12_after_27 : decode cX12_after 27 = .ok (.iconst (-1), 1) := by decide +kernel
theorem dX12_after_28 : decode cX12_after 28 = .ok (.istore 5, 2) := by decide +kernel
theorem dX12_after_30 : decode cX12_after 30 = .ok (.iconst 1, 1) := by decide +kernel
theorem dX12_after_31 : decode cX12_after 31 = .ok (.istore 6, 2) := by decide +kernel
theorem dX12_after_33 : decode cX12_after 33 = .ok (.iconst 0, 1) := by decide +kernel
theorem dX12_after_34 : decode cX12_after 34 = .ok (.istore 7, 2) := by decide +kernel
theorem dX12_after_36 : decode cX12_after 36 = .ok (.iload 6, 2) := by decide +kernel
theorem dX12_after_38 : decode cX12_after 38 = .ok (.ifCond .eq 58, 3) := by decide +kernel
theorem dX12_after_41 : decode cX12_after 41 = .ok (.iload 7, 2) := by decide +kernel
theorem dX12_after_43 : decode cX12_after 43 = .ok (.aload_n 0, 1) := by decide +kernel
theorem dX12_after_44 : decode cX12_after 44 = .ok (.invokevirtual 291, 3) := by decide +kernel
theorem dX12_after_47 : decode cX12_after 47 = .ok (.if_icmp .ge 16, 3) := by decide +kernel
theorem dX12_after_50 : decode cX12_after 50 = .ok (.aload_n 0, 1) := by decide +kernel
theorem dX12_after_51 : decode cX12_after 51 = .ok (.iload 7, 2) := by decide +kernel
theorem dX12_after_53 : decode cX12_after 53 = .ok (.invokevirtual 324, 3) := by decide +kernel
theorem dX12_after_56 : decode cX12_after 56 = .ok (.ifCond .eq 7, 3) := by decide +kernel
theorem dX12_after_59 : decode cX12_after 59 = .ok (.iconst 1, 1) := by decide +kernel
theorem dX12_after_60 : decode cX12_after 60 = .ok (.goto 4, 3) := by decide +kernel
theorem dX12_after_63 : decode cX12_after 63 = .ok (.iconst 0, 1) := by decide +kernel
theorem dX12_after_64 : decode cX12_after 64 = .ok (.istore 6, 2) := by decide +kernel
theorem dX12_after_66 : decode cX12_after 66 = .ok (.iload 5, 2) := by decide +kernel
theorem dX12_after_68 : decode cX12_after 68 = .ok (.iconst (-1), 1) := by decide +kernel
theorem dX12_after_69 : decode cX12_after 69 = .ok (.if_icmp .ne 17, 3) := by decide +kernel
theorem dX12_after_72 : decode cX12_after 72 = .ok (.aload_n 0, 1) := by decide +kernel
theorem dX12_after_73 : decode cX12_after 73 = .ok (.invokevirtual 333, 3) := by decide +kernel
theorem dX12_after_76 : decode cX12_after 76 = .ok (.iload 4, 2) := by decide +kernel
theorem dX12_after_78 : decode cX12_after 78 = .ok (.if_icmp .eq 8, 3) := by decide +kernel
theorem dX12_after_81 : decode cX12_after 81 = .ok (.iload 7, 2) := by decide +kernel
theorem dX12_after_83 : decode cX12_after 83 = .ok (.goto 5, 3) := by decide +kernel
theorem dX12_after_86 : decode cX12_after 86 = .ok (.iload 5, 2) := by decide +kernel
theorem dX12_after_88 : decode cX12_after 88 = .ok (.istore 5, 2) := by decide +kernel
theorem dX12_after_90 : decode cX12_after 90 = .ok (.iinc 7 1, 3) := by decide +kernel
theorem dX12_after_93 : decode cX12_after 93 = .ok (.goto (-57), 3) := by decide +kernel
theorem dX12_after_96 : decode cX12_after 96 = .ok (.iload_n 3, 1) := by decide +kernel
theorem dX12_after_97 : decode cX12_after 97 = .ok (.ifCond .ne 6, 3) := by decide +kernel
theorem dX12_after_100 : decode cX12_after 100 = .ok (.iload 5, 2) := by decide +kernel
theorem dX12_after_102 : decode cX12_after 102 = .ok (.ireturn, 1) := by decide +kernel
theorem dX12_after_103 : decode cX12_after 103 = .ok (.iload_n 3, 1) := by decide +kernel
theorem dX12_after_104 : decode cX12_after 104 = .ok (.bipush 10, 2) := by decide +kernel
theorem dX12_after_106 : decode cX12_after 106 = .ok (.irem, 1) := by decide +kernel
theorem dX12_after_107 : decode cX12_after 107 = .ok (.istore 7, 2) := by decide +kernel
theorem dX12_after_109 : decode cX12_after 109 = .ok (.iload_n 3, 1) := by decide +kernel
theorem dX12_after_110 : decode cX12_after 110 = .ok (.bipush 10, 2) := by decide +kernel
theorem dX12_after_112 : decode cX12_after 112 = .ok (.bipush 39, 2) := by decide +kernel
theorem dX12_after_114 : decode cX12_after 114 = .ok (.invokestatic 108, 3) := by decide +kernel
theorem dX12_after_117 : decode cX12_after 117 = .ok (.ifCond .eq 12, 3) := by decide +kernel
theorem dX12_after_120 : decode cX12_after 120 = .ok (.aload_n 0, 1) := by decide +kernel
theorem dX12_after_121 : decode cX12_after 121 = .ok (.iload 7, 2) := by decide +kernel
theorem dX12_after_123 : decode cX12_after 123 = .ok (.invokevirtual 306, 3) := by decide +kernel
theorem dX12_after_126 : decode cX12_after 126 = .ok (.ifCond .ne 6, 3) := by decide +kernel
theorem dX12_after_129 : decode cX12_after 129 = .ok (.bipush (-2), 2) := by decide +kernel
theorem dX12_after_131 : decode cX12_after 131 = .ok (.ireturn, 1) := by decide +kernel
theorem dX12_after_132 : decode cX12_after 132 = .ok (.iconst 0, 1) := by decide +kernel
theorem dX12_after_133 : decode cX12_after 133 = .ok (.istore 8, 2) := by decide +kernel
theorem dX12_after_135 : decode cX12_after 135 = .ok (.iconst 0, 1) := by decide +kernel
theorem dX12_after_136 : decode cX12_after 136 = .ok (.istore 9, 2) := by decide +kernel
theorem dX12_after_138 : decode cX12_after 138 = .ok (.iload 9, 2) := by decide +kernel
theorem dX12_after_140 : decode cX12_after 140 = .ok (.aload_n 0, 1) := by decide +kernel
theorem dX12_after_141 : decode cX12_after 141 = .ok (.getfield 256, 3) := by decide +kernel
theorem dX12_after_144 : decode cX12_after 144 = .ok (.if_icmp .ge 33, 3) := by decide +kernel
theorem dX12_after_147 : decode cX12_after 147 = .ok (.iload 8, 2) := by decide +kernel
theorem dX12_after_149 : decode cX12_after 149 = .ok (.aload_n 0, 1) := by decide +kernel
theorem dX12_after_150 : decode cX12_after 150 = .ok (.iload 7, 2) := by decide +kernel
theorem dX12_after_152 : decode cX12_after 152 = .ok (.iload 9, 2) := by decide +kernel
theorem dX12_after_154 : decode cX12_after 154 = .ok (.invokevirtual 303, 3) := by decide +kernel
theorem dX12_after_157 : decode cX12_after 157 = .ok (.ifCond .eq 10, 3) := by decide +kernel
theorem dX12_after_160 : decode cX12_after 160 = .ok (.iconst 1, 1) := by decide +kernel
theorem dX12_after_161 : decode cX12_after 161 = .ok (.iload 9, 2) := by decide +kernel
theorem dX12_after_163 : decode cX12_after 163 = .ok (.ishl, 1) := by decide +kernel
theorem dX12_after_164 : decode cX12_after 164 = .ok (.goto 4, 3) := by decide +kernel
theorem dX12_after_167 : decode cX12_after 167 = .ok (.iconst 0, 1) := by decide +kernel
theorem dX12_after_168 : decode cX12_after 168 = .ok (.ior, 1) := by decide +kernel
theorem dX12_after_169 : decode cX12_after 169 = .ok (.istore 8, 2) := by decide +kernel
theorem dX12_after_171 : decode cX12_after 171 = .ok (.iinc 9 1, 3) := by decide +kernel
theorem dX12_after_174 : decode cX12_after 174 = .ok (.goto (-36), 3) := by decide +kernel
theorem dX12_after_177 : decode cX12_after 177 = .ok (.iload_n 3, 1) := by decide +kernel
theorem dX12_after_178 : decode cX12_after 178 = .ok (.bipush 20, 2) := by decide +kernel
theorem dX12_after_180 : decode cX12_after 180 = .ok (.if_icmp .ge 8, 3) := by decide +kernel
theorem dX12_after_183 : decode cX12_after 183 = .ok (.iload 8, 2) := by decide +kernel
theorem dX12_after_185 : decode cX12_after 185 = .ok (.goto 26, 3) := by decide +kernel
theorem dX12_after_188 : decode cX12_after 188 = .ok (.iload_n 3, 1) := by decide +kernel
theorem dX12_after_189 : decode cX12_after 189 = .ok (.bipush 30, 2) := by decide +kernel
theorem dX12_after_191 : decode cX12_after 191 = .ok (.if_icmp .ge 13, 3) := by decide +kernel
theorem dX12_after_194 : decode cX12_after 194 = .ok (.aload_n 0, 1) := by decide +kernel
theorem dX12_after_195 : decode cX12_after 195 = .ok (.getfield 53, 3) := by decide +kernel
theorem dX12_after_198 : decode cX12_after 198 = .ok (.iload 7, 2) := by decide +kernel
theorem dX12_after_200 : decode cX12_after 200 = .ok (.iaload, 1) := by decide +kernel
theorem dX12_after_201 : decode cX12_after 201 = .ok (.goto 10, 3) := by decide +kernel
theorem dX12_after_204 : decode cX12_after 204 = .ok (.aload_n 0, 1) := by decide +kernel
theorem dX12_after_205 : decode cX12_after 205 = .ok (.getfield 56, 3) := by decide +kernel
theorem dX12_after_208 : decode cX12_after 208 = .ok (.iload 7, 2) := by decide +kernel
theorem dX12_after_210 : decode cX12_after 210 = .ok (.iaload, 1) := by decide +kernel
theorem dX12_after_211 : decode cX12_after 211 = .ok (.ireturn, 1) := by decide +kernel
theorem dX12_count_0 : decode cX12_count 0 = .ok (.aload_n 0, 1) := by decide +kernel
theorem dX12_count_1 : decode cX12_count 1 = .ok (.iconst 0, 1) := by decide +kernel
theorem dX12_count_2 : decode cX12_count 2 = .ok (.putfield 96, 3) := by decide +kernel
theorem dX12_count_5 : decode cX12_count 5 = .ok (.iload_n 1, 1) := by decide +kernel
theorem dX12_count_6 : decode cX12_count 6 = .ok (.iconst 0, 1) := by decide +kernel
theorem dX12_count_7 : decode cX12_count 7 = .ok (.iconst 2, 1) := by decide +kernel
theorem dX12_count_8 : decode cX12_count 8 = .ok (.invokestatic 108, 3) := by decide +kernel
theorem dX12_count_11 : decode cX12_count 11 = .ok (.ifCond .eq 12, 3) := by decide +kernel
theorem dX12_count_14 : decode cX12_count 14 = .ok (.aload_n 0, 1) := by decide +kernel
theorem dX12_count_15 : decode cX12_count 15 = .ok (.getfield 23, 3) := by decide +kernel
theorem dX12_count_18 : decode cX12_count 18 = .ok (.iload_n 1, 1) := by decide +kernel
theorem dX12_count_19 : decode cX12_count 19 = .ok (.iaload, 1) := by decide +kernel
theorem dX12_count_20 : decode cX12_count 20 = .ok (.goto 5, 3) := by decide +kernel
theorem dX12_count_23 : decode cX12_count 23 = .ok (.bipush (-2), 2) := by decide +kernel
theorem dX12_count_25 : decode cX12_count 25 = .ok (.ireturn, 1) := by decide +kernel
theorem dX12_image_0 : decode cX12_image 0 = .ok (.aload_n 0, 1) := by decide +kernel
theorem dX12_image_1 : decode cX12_image 1 = .ok (.iconst 0, 1) := by decide +kernel
theorem dX12_image_2 : decode cX12_image 2 = .ok (.putfield 96, 3) := by decide +kernel
theorem dX12_image_5 : decode cX12_image 5 = .ok (.iload_n 1, 1) := by decide +kernel
theorem dX12_image_6 : decode cX12_image 6 = .ok (.iconst 0, 1) := by decide +kernel
theorem dX12_image_7 : decode cX12_image 7 = .ok (.iconst 2, 1) := by decide +kernel
theorem dX12_image_8 : decode cX12_image 8 = .ok (.invokestatic 108, 3) := by decide +kernel
theorem dX12_image_11 : decode cX12_image 11 = .ok (.ifCond .ne 5, 3) := by decide +kernel
theorem dX12_image_14 : decode cX12_image 14 = .ok (.iconst 0, 1) := by decide +kernel
theorem dX12_image_15 : decode cX12_image 15 = .ok (.ireturn, 1) := by decide +kernel
theorem dX12_image_16 : decode cX12_image 16 = .ok (.aload_n 0, 1) := by decide +kernel
theorem dX12_image_17 : decode cX12_image 17 = .ok (.iconst 0, 1) := by decide +kernel
theorem dX12_image_18 : decode cX12_image 18 = .ok (.iload_n 1, 1) := by decide +kernel
theorem dX12_image_19 : decode cX12_image 19 = .ok (.iconst 1, 1) := by decide +kernel
theorem dX12_image_20 : decode cX12_image 20 = .ok (.iadd, 1) := by decide +kernel
theorem dX12_image_21 : decode cX12_image 21 = .ok (.invokevirtual 503, 3) := by decide +kernel
theorem dX12_image_24 : decode cX12_image 24 = .ok (.aload_n 0, 1) := by decide +kernel
theorem dX12_image_25 : decode cX12_image 25 = .ok (.getfield 93, 3) := by decide +kernel
theorem dX12_image_28 : decode cX12_image 28 = .ok (.iload_n 1, 1) := by decide +kernel
theorem dX12_image_29 : decode cX12_image 29 = .ok (.iconst 1, 1) := by decide +kernel
theorem dX12_image_30 : decode cX12_image 30 = .ok (.bastore, 1) := by decide +kernel
theorem dX12_image_31 : decode cX12_image 31 = .ok (.iconst 1, 1) := by decide +kernel
theorem dX12_image_32 : decode cX12_image 32 = .ok (.ireturn, 1) := by decide +kernel
theorem dX12_again_0 : decode cX12_again 0 = .ok (.aload_n 0, 1) := by decide +kernel
theorem dX12_again_1 : decode cX12_again 1 = .ok (.iconst 0, 1) := by decide +kernel
theorem dX12_again_2 : decode cX12_again 2 = .ok (.putfield 96, 3) := by decide +kernel
theorem dX12_again_5 : decode cX12_again 5 = .ok (.iload_n 1, 1) := by decide +kernel
theorem dX12_again_6 : decode cX12_again 6 = .ok (.iconst 0, 1) := by decide +kernel
theorem dX12_again_7 : decode cX12_again 7 = .ok (.iconst 2, 1) := by decide +kernel
theorem dX12_again_8 : decode cX12_again 8 = .ok (.invokestatic 108, 3) := by decide +kernel
theorem dX12_again_11 : decode cX12_again 11 = .ok (.ifCond .eq 12, 3) := by decide +kernel
theorem dX12_again_14 : decode cX12_again 14 = .ok (.aload_n 0, 1) := by decide +kernel
theorem dX12_again_15 : decode cX12_again 15 = .ok (.getfield 93, 3) := by decide +kernel
theorem dX12_again_18 : decode cX12_again 18 = .ok (.iload_n 1, 1) := by decide +kernel
theorem dX12_again_19 : decode cX12_again 19 = .ok (.baload, 1) := by decide +kernel
theorem dX12_again_20 : decode cX12_again 20 = .ok (.ifCond .ne 5, 3) := by decide +kernel
theorem dX12_again_23 : decode cX12_again 23 = .ok (.iconst 0, 1) := by decide +kernel
theorem dX12_again_24 : decode cX12_again 24 = .ok (.ireturn, 1) := by decide +kernel
theorem dX12_again_25 : decode cX12_again 25 = .ok (.aload_n 0, 1) := by decide +kernel
theorem dX12_again_26 : decode cX12_again 26 = .ok (.iload_n 1, 1) := by decide +kernel
theorem dX12_again_27 : decode cX12_again 27 = .ok (.iconst 1, 1) := by decide +kernel
theorem dX12_again_28 : decode cX12_again 28 = .ok (.iadd, 1) := by decide +kernel
theorem dX12_again_29 : decode cX12_again 29 = .ok (.iconst 0, 1) := by decide +kernel
theorem dX12_again_30 : decode cX12_again 30 = .ok (.invokevirtual 503, 3) := by decide +kernel
theorem dX12_again_33 : decode cX12_again 33 = .ok (.iconst 1, 1) := by decide +kernel
theorem dX12_again_34 : decode cX12_again 34 = .ok (.ireturn, 1) := by decide +kernel

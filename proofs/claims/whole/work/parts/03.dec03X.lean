theorem dX5_visit_6 : decode cX5_visit 6 = .ok (.if_icmp .ge 9, 3) := by decide +kernel
theorem dX5_visit_9 : decode cX5_visit 9 = .ok (.iload_n 3, 1) := by decide +kernel
theorem dX5_visit_10 : decode cX5_visit 10 = .ok (.bipush 6, 2) := by decide +kernel
theorem dX5_visit_12 : decode cX5_visit 12 = .ok (.if_icmp .le 4, 3) := by decide +kernel
theorem dX5_visit_15 : decode cX5_visit 15 = .ok (.return_, 1) := by decide +kernel
theorem dX5_visit_16 : decode cX5_visit 16 = .ok (.iload_n 2, 1) := by decide +kernel
theorem dX5_visit_17 : decode cX5_visit 17 = .ok (.ifCond .ne 25, 3) := by decide +kernel
theorem dX5_visit_20 : decode cX5_visit 20 = .ok (.aload_n 0, 1) := by decide +kernel
theorem dX5_visit_21 : decode cX5_visit 21 = .ok (.iload 5, 2) := by decide +kernel
theorem dX5_visit_23 : decode cX5_visit 23 = .ok (.putfield 33, 3) := by decide +kernel
theorem dX5_visit_26 : decode cX5_visit 26 = .ok (.aload_n 0, 1) := by decide +kernel
theorem dX5_visit_27 : decode cX5_visit 27 = .ok (.getfield 22, 3) := by decide +kernel
theorem dX5_visit_30 : decode cX5_visit 30 = .ok (.iconst 0, 1) := by decide +kernel
theorem dX5_visit_31 : decode cX5_visit 31 = .ok (.aload_n 0, 1) := by decide +kernel
theorem dX5_visit_32 : decode cX5_visit 32 = .ok (.getfield 25, 3) := by decide +kernel
theorem dX5_visit_35 : decode cX5_visit 35 = .ok (.iconst 0, 1) := by decide +kernel
theorem dX5_visit_36 : decode cX5_visit 36 = .ok (.bipush 6, 2) := by decide +kernel
theorem dX5_visit_38 : decode cX5_visit 38 = .ok (.invokestatic 64, 3) := by decide +kernel
theorem dX5_visit_41 : decode cX5_visit 41 = .ok (.return_, 1) := by decide +kernel
theorem dX5_visit_42 : decode cX5_visit 42 = .ok (.iconst 0, 1) := by decide +kernel
theorem dX5_visit_43 : decode cX5_visit 43 = .ok (.istore 6, 2) := by decide +kernel
theorem dX5_visit_45 : decode cX5_visit 45 = .ok (.iload 6, 2) := by decide +kernel
theorem dX5_visit_47 : decode cX5_visit 47 = .ok (.aload_n 1, 1) := by decide +kernel
theorem dX5_visit_48 : decode cX5_visit 48 = .ok (.getfield 70, 3) := by decide +kernel
theorem dX5_visit_51 : decode cX5_visit 51 = .ok (.if_icmp .ge 83, 3) := by decide +kernel
theorem dX5_visit_54 : decode cX5_visit 54 = .ok (.iload_n 3, 1) := by decide +kernel
theorem dX5_visit_55 : decode cX5_visit 55 = .ok (.bipush 6, 2) := by decide +kernel
theorem dX5_visit_57 : decode cX5_visit 57 = .ok (.if_icmp .ge 77, 3) := by decide +kernel
theorem dX5_visit_60 : decode cX5_visit 60 = .ok (.iload_n 2, 1) := by decide +kernel
theorem dX5_visit_61 : decode cX5_visit 61 = .ok (.iload 6, 2) := by decide +kernel
theorem dX5_visit_63 : decode cX5_visit 63 = .ok (.invokestatic 45, 3) := by decide +kernel
theorem dX5_visit_66 : decode cX5_visit 66 = .ok (.ifCond .eq 62, 3) := by decide +kernel
theorem dX5_visit_69 : decode cX5_visit 69 = .ok (.aload_n 0, 1) := by decide +kernel
theorem dX5_visit_70 : decode cX5_visit 70 = .ok (.getfield 12, 3) := by decide +kernel
theorem dX5_visit_73 : decode cX5_visit 73 = .ok (.aload_n 1, 1) := by decide +kernel
theorem dX5_visit_74 : decode cX5_visit 74 = .ok (.iload 4, 2) := by decide +kernel
theorem dX5_visit_76 : decode cX5_visit 76 = .ok (.iload 5, 2) := by decide +kernel
theorem dX5_visit_78 : decode cX5_visit 78 = .ok (.iload 6, 2) := by decide +kernel
theorem dX5_visit_80 : decode cX5_visit 80 = .ok (.invokevirtual 73, 3) := by decide +kernel
theorem dX5_visit_83 : decode cX5_visit 83 = .ok (.istore 7, 2) := by decide +kernel
theorem dX5_visit_85 : decode cX5_visit 85 = .ok (.iload 7, 2) := by decide +kernel
theorem dX5_visit_87 : decode cX5_visit 87 = .ok (.ldc 32, 2) := by decide +kernel
theorem dX5_visit_89 : decode cX5_visit 89 = .ok (.if_icmp .eq 39, 3) := by decide +kernel
theorem dX5_visit_92 : decode cX5_visit 92 = .ok (.aload_n 0, 1) := by decide +kernel
theorem dX5_visit_93 : decode cX5_visit 93 = .ok (.getfield 22, 3) := by decide +kernel
theorem dX5_visit_96 : decode cX5_visit 96 = .ok (.iload_n 3, 1) := by decide +kernel
theorem dX5_visit_97 : decode cX5_visit 97 = .ok (.iload 6, 2) := by decide +kernel
theorem dX5_visit_99 : decode cX5_visit 99 = .ok (.iastore, 1) := by decide +kernel
theorem dX5_visit_100 : decode cX5_visit 100 = .ok (.aload_n 0, 1) := by decide +kernel
theorem dX5_visit_101 : decode cX5_visit 101 = .ok (.aload_n 1, 1) := by decide +kernel
theorem dX5_visit_102 : decode cX5_visit 102 = .ok (.iload_n 2, 1) := by decide +kernel
theorem dX5_visit_103 : decode cX5_visit 103 = .ok (.iconst 1, 1) := by decide +kernel
theorem dX5_visit_104 : decode cX5_visit 104 = .ok (.iload 6, 2) := by decide +kernel
theorem dX5_visit_106 : decode cX5_visit 106 = .ok (.ishl, 1) := by decide +kernel
theorem dX5_visit_107 : decode cX5_visit 107 = .ok (.iconst (-1), 1) := by decide +kernel
theorem dX5_visit_108 : decode cX5_visit 108 = .ok (.ixor, 1) := by decide +kernel
theorem dX5_visit_109 : decode cX5_visit 109 = .ok (.iand, 1) := by decide +kernel
theorem dX5_visit_110 : decode cX5_visit 110 = .ok (.iload_n 3, 1) := by decide +kernel
theorem dX5_visit_111 : decode cX5_visit 111 = .ok (.iconst 1, 1) := by decide +kernel
theorem dX5_visit_112 : decode cX5_visit 112 = .ok (.iadd, 1) := by decide +kernel
theorem dX5_visit_113 : decode cX5_visit 113 = .ok (.iload 6, 2) := by decide +kernel
theorem dX5_visit_115 : decode cX5_visit 115 = .ok (.iload 7, 2) := by decide +kernel
theorem dX5_visit_117 : decode cX5_visit 117 = .ok (.aload_n 0, 1) := by decide +kernel
theorem dX5_visit_118 : decode cX5_visit 118 = .ok (.getfield 18, 3) := by decide +kernel
theorem dX5_visit_121 : decode cX5_visit 121 = .ok (.iload 6, 2) := by decide +kernel
theorem dX5_visit_123 : decode cX5_visit 123 = .ok (.iaload, 1) := by decide +kernel
theorem dX5_visit_124 : decode cX5_visit 124 = .ok (.iadd, 1) := by decide +kernel
theorem dX5_visit_125 : decode cX5_visit 125 = .ok (.invokevirtual 60, 3) := by decide +kernel
theorem dX5_visit_128 : decode cX5_visit 128 = .ok (.iinc 6 1, 3) := by decide +kernel
theorem dX5_visit_131 : decode cX5_visit 131 = .ok (.goto (-86), 3) := by decide +kernel
theorem dX5_visit_134 : decode cX5_visit 134 = .ok (.return_, 1) := by decide +kernel
theorem dX5_answer_0 : decode cX5_answer 0 = .ok (.aload_n 0, 1) := by decide +kernel
theorem dX5_answer_1 : decode cX5_answer 1 = .ok (.getfield 33, 3) := by decide +kernel
theorem dX5_answer_4 : decode cX5_answer 4 = .ok (.ldc 32, 2) := by decide +kernel
theorem dX5_answer_6 : decode cX5_answer 6 = .ok (.if_icmp .ne 5, 3) := by decide +kernel
theorem dX5_answer_9 : decode cX5_answer 9 = .ok (.iconst (-1), 1) := by decide +kernel
theorem dX5_answer_10 : decode cX5_answer 10 = .ok (.ireturn, 1) := by decide +kernel
theorem dX5_answer_11 : decode cX5_answer 11 = .ok (.iload_n 1, 1) := by decide +kernel
theorem dX5_answer_12 : decode cX5_answer 12 = .ok (.iconst (-1), 1) := by decide +kernel
theorem dX5_answer_13 : decode cX5_answer 13 = .ok (.if_icmp .ne 8, 3) := by decide +kernel
theorem dX5_answer_16 : decode cX5_answer 16 = .ok (.aload_n 0, 1) := by decide +kernel
theorem dX5_answer_17 : decode cX5_answer 17 = .ok (.getfield 33, 3) := by decide +kernel
theorem dX5_answer_20 : decode cX5_answer 20 = .ok (.ireturn, 1) := by decide +kernel
theorem dX5_answer_21 : decode cX5_answer 21 = .ok (.iload_n 1, 1) := by decide +kernel
theorem dX5_answer_22 : decode cX5_answer 22 = .ok (.ifCond .lt 20, 3) := by decide +kernel
theorem dX5_answer_25 : decode cX5_answer 25 = .ok (.iload_n 1, 1) := by decide +kernel
theorem dX5_answer_26 : decode cX5_answer 26 = .ok (.aload_n 0, 1) := by decide +kernel
theorem dX5_answer_27 : decode cX5_answer 27 = .ok (.getfield 28, 3) := by decide +kernel
theorem dX5_answer_30 : decode cX5_answer 30 = .ok (.if_icmp .ge 12, 3) := by decide +kernel
theorem dX5_answer_33 : decode cX5_answer 33 = .ok (.aload_n 0, 1) := by decide +kernel
theorem dX5_answer_34 : decode cX5_answer 34 = .ok (.getfield 25, 3) := by decide +kernel
theorem dX5_answer_37 : decode cX5_answer 37 = .ok (.iload_n 1, 1) := by decide +kernel
theorem dX5_answer_38 : decode cX5_answer 38 = .ok (.iaload, 1) := by decide +kernel
theorem dX5_answer_39 : decode cX5_answer 39 = .ok (.goto 4, 3) := by decide +kernel
theorem dX5_answer_42 : decode cX5_answer 42 = .ok (.iconst (-1), 1) := by decide +kernel
theorem dX5_answer_43 : decode cX5_answer 43 = .ok (.ireturn, 1) := by decide +kernel
theorem dX6_init_0 : decode cX6_init 0 = .ok (.aload_n 0, 1) := by decide +kernel
theorem dX6_init_1 : decode cX6_init 1 = .ok (.invokespecial 3, 3) := by decide +kernel
theorem dX6_init_4 : decode cX6_init 4 = .ok (.aload_n 0, 1) := by decide +kernel
theorem dX6_init_5 : decode cX6_init 5 = .ok (.iconst 0, 1) := by decide +kernel
theorem dX6_init_6 : decode cX6_init 6 = .ok (.putfield 9, 3) := by decide +kernel
theorem dX6_init_9 : decode cX6_init 9 = .ok (.aload_n 0, 1) := by decide +kernel
theorem dX6_init_10 : decode cX6_init 10 = .ok (.iload_n 1, 1) := by decide +kernel
theorem dX6_init_11 : decode cX6_init 11 = .ok (.putfield 15, 3) := by decide +kernel
theorem dX6_init_14 : decode cX6_init 14 = .ok (.aload_n 0, 1) := by decide +kernel
theorem dX6_init_15 : decode cX6_init 15 = .ok (.iload_n 2, 1) := by decide +kernel
theorem dX6_init_16 : decode cX6_init 16 = .ok (.putfield 18, 3) := by decide +kernel
theorem dX6_init_19 : decode cX6_init 19 = .ok (.aload_n 0, 1) := by decide +kernel
theorem dX6_init_20 : decode cX6_init 20 = .ok (.iload_n 1, 1) := by decide +kernel
theorem dX6_init_21 : decode cX6_init 21 = .ok (.iload_n 2, 1) := by decide +kernel
theorem dX6_init_22 : decode cX6_init 22 = .ok (.imul, 1) := by decide +kernel
theorem dX6_init_23 : decode cX6_init 23 = .ok (.newarray .int, 2) := by decide +kernel
theorem dX6_init_25 : decode cX6_init 25 = .ok (.putfield 21, 3) := by decide +kernel
theorem dX6_init_28 : decode cX6_init 28 = .ok (.return_, 1) := by decide +kernel
theorem dX6_room_0 : decode cX6_room 0 = .ok (.aload_n 0, 1) := by decide +kernel
theorem dX6_room_1 : decode cX6_room 1 = .ok (.getfield 15, 3) := by decide +kernel
theorem dX6_room_4 : decode cX6_room 4 = .ok (.aload_n 0, 1) := by decide +kernel
theorem dX6_room_5 : decode cX6_room 5 = .ok (.getfield 9, 3) := by decide +kernel
theorem dX6_room_8 : decode cX6_room 8 = .ok (.isub, 1) := by decide +kernel
theorem dX6_room_9 : decode cX6_room 9 = .ok (.ireturn, 1) := by decide +kernel
theorem dX6_put_0 : decode cX6_put 0 = .ok (.aload_n 0, 1) := by decide +kernel
theorem dX6_put_1 : decode cX6_put 1 = .ok (.getfield 21, 3) := by decide +kernel
theorem dX6_put_4 : decode cX6_put 4 = .ok (.iload_n 1, 1) := by decide +kernel
theorem dX6_put_5 : decode cX6_put 5 = .ok (.aload_n 0, 1) := by decide +kernel
theorem dX6_put_6 : decode cX6_put 6 = .ok (.getfield 18, 3) := by decide +kernel
theorem dX6_put_9 : decode cX6_put 9 = .ok (.imul, 1) := by decide +kernel
theorem dX6_put_10 : decode cX6_put 10 = .ok (.iload_n 2, 1) := by decide +kernel
theorem dX6_put_11 : decode cX6_put 11 = .ok (.iadd, 1) := by decide +kernel
theorem dX6_put_12 : decode cX6_put 12 = .ok (.iload_n 3, 1) := by decide +kernel
theorem dX6_put_13 : decode cX6_put 13 = .ok (.iastore, 1) := by decide +kernel
theorem dX6_put_14 : decode cX6_put 14 = .ok (.return_, 1) := by decide +kernel
theorem dX6_at_0 : decode cX6_at 0 = .ok (.aload_n 0, 1) := by decide +kernel
theorem dX6_at_1 : decode cX6_at 1 = .ok (.getfield 21, 3) := by decide +kernel
theorem dX6_at_4 : decode cX6_at 4 = .ok (.iload_n 1, 1) := by decide +kernel
theorem dX6_at_5 : decode cX6_at 5 = .ok (.aload_n 0, 1) := by decide +kernel
theorem dX6_at_6 : decode cX6_at 6 = .ok (.getfield 18, 3) := by decide +kernel
theorem dX6_at_9 : decode cX6_at 9 = .ok (.imul, 1) := by decide +kernel
theorem dX6_at_10 : decode cX6_at 10 = .ok (.iload_n 2, 1) := by decide +kernel
theorem dX6_at_11 : decode cX6_at 11 = .ok (.iadd, 1) := by decide +kernel
theorem dX6_at_12 : decode cX6_at 12 = .ok (.iaload, 1) := by decide +kernel
theorem dX6_at_13 : decode cX6_at 13 = .ok (.ireturn, 1) := by decide +kernel
theorem dX6_copy_0 : decode cX6_copy 0 = .ok (.aload_n 0, 1) := by decide +kernel
theorem dX6_copy_1 : decode cX6_copy 1 = .ok (.aload_n 1, 1) := by decide +kernel
theorem dX6_copy_2 : decode cX6_copy 2 = .ok (.getfield 9, 3) := by decide +kernel
theorem dX6_copy_5 : decode cX6_copy 5 = .ok (.putfield 9, 3) := by decide +kernel
theorem dX6_copy_8 : decode cX6_copy 8 = .ok (.aload_n 1, 1) := by decide +kernel
theorem dX6_copy_9 : decode cX6_copy 9 = .ok (.getfield 21, 3) := by decide +kernel
theorem dX6_copy_12 : decode cX6_copy 12 = .ok (.iconst 0, 1) := by decide +kernel
theorem dX6_copy_13 : decode cX6_copy 13 = .ok (.aload_n 0, 1) := by decide +kernel
theorem dX6_copy_14 : decode cX6_copy 14 = .ok (.getfield 21, 3) := by decide +kernel
theorem dX6_copy_17 : decode cX6_copy 17 = .ok (.iconst 0, 1) := by decide +kernel
theorem dX6_copy_18 : decode cX6_copy 18 = .ok (.aload_n 0, 1) := by decide +kernel
theorem dX6_copy_19 : decode cX6_copy 19 = .ok (.getfield 21, 3) := by decide +kernel
theorem dX6_copy_22 : decode cX6_copy 22 = .ok (.arraylength, 1) := by decide +kernel
theorem dX6_copy_23 : decode cX6_copy 23 = .ok (.invokestatic 25, 3) := by decide +kernel
theorem dX6_copy_26 : decode cX6_copy 26 = .ok (.return_, 1) := by decide +kernel
theorem dX6_answer_0 : decode cX6_answer 0 = .ok (.iload_n 1, 1) := by decide +kernel
theorem dX6_answer_1 : decode cX6_answer 1 = .ok (.iconst (-1), 1) := by decide +kernel
theorem dX6_answer_2 : decode cX6_answer 2 = .ok (.if_icmp .ne 17, 3) := by decide +kernel
theorem dX6_answer_5 : decode cX6_answer 5 = .ok (.iload_n 2, 1) := by decide +kernel
theorem dX6_answer_6 : decode cX6_answer 6 = .ok (.ifCond .ne 10, 3) := by decide +kernel
theorem dX6_answer_9 : decode cX6_answer 9 = .ok (.aload_n 0, 1) := by decide +kernel
theorem dX6_answer_10 : decode cX6_answer 10 = .ok (.getfield 9, 3) := by decide +kernel
theorem dX6_answer_13 : decode cX6_answer 13 = .ok (.goto 5, 3) := by decide +kernel
theorem dX6_answer_16 : decode cX6_answer 16 = .ok (.bipush (-2), 2) := by decide +kernel
theorem dX6_answer_18 : decode cX6_answer 18 = .ok (.ireturn, 1) := by decide +kernel
theorem dX6_answer_19 : decode cX6_answer 19 = .ok (.iload_n 1, 1) := by decide +kernel
theorem dX6_answer_20 : decode cX6_answer 20 = .ok (.ifCond .lt 27, 3) := by decide +kernel
theorem dX6_answer_23 : decode cX6_answer 23 = .ok (.iload_n 1, 1) := by decide +kernel
theorem dX6_answer_24 : decode cX6_answer 24 = .ok (.aload_n 0, 1) := by decide +kernel
theorem dX6_answer_25 : decode cX6_answer 25 = .ok (.getfield 9, 3) := by decide +kernel
theorem dX6_answer_28 : decode cX6_answer 28 = .ok (.if_icmp .ge 19, 3) := by decide +kernel
theorem dX6_answer_31 : decode cX6_answer 31 = .ok (.iload_n 2, 1) := by decide +kernel
theorem dX6_answer_32 : decode cX6_answer 32 = .ok (.ifCond .lt 15, 3) := by decide +kernel
theorem dX6_answer_35 : decode cX6_answer 35 = .ok (.iload_n 2, 1) := by decide +kernel
theorem dX6_answer_36 : decode cX6_answer 36 = .ok (.aload_n 0, 1) := by decide +kernel
theorem dX6_answer_37 : decode cX6_answer 37 = .ok (.getfield 18, 3) := by decide +kernel
theorem dX6_answer_40 : decode cX6_answer 40 = .ok (.if_icmp .ge 7, 3) := by decide +kernel
theorem dX6_answer_43 : decode cX6_answer 43 = .ok (.iconst 1, 1) := by decide +kernel
theorem dX6_answer_44 : decode cX6_answer 44 = .ok (.goto 4, 3) := by decide +kernel
theorem dX6_answer_47 : decode cX6_answer 47 = .ok (.iconst 0, 1) := by decide +kernel
theorem dX6_answer_48 : decode cX6_answer 48 = .ok (.istore_n 3, 1) := by decide +kernel
theorem dX6_answer_49 : decode cX6_answer 49 = .ok (.iload_n 3, 1) := by decide +kernel
theorem dX6_answer_50 : decode cX6_answer 50 = .ok (.ifCond .eq 12, 3) := by decide +kernel
theorem dX6_answer_53 : decode cX6_answer 53 = .ok (.aload_n 0, 1) := by decide +kernel
theorem dX6_answer_54 : decode cX6_answer 54 = .ok (.iload_n 1, 1) := by decide +kernel
theorem dX6_answer_55 : decode cX6_answer 55 = .ok (.iload_n 2, 1) := by decide +kernel
theorem dX6_answer_56 : decode cX6_answer 56 = .ok (.invokevirtual 31, 3) := by decide +kernel
theorem dX6_answer_59 : decode cX6_answer 59 = .ok (.goto 5, 3) := by decide +kernel
theorem dX6_answer_62 : decode cX6_answer 62 = .ok (.bipush (-2), 2) := by decide +kernel
theorem dX6_answer_64 : decode cX6_answer 64 = .ok (.ireturn, 1) := by decide +kernel
theorem dX7_init_0 : decode cX7_init 0 = .ok (.aload_n 0, 1) := by decide +kernel
theorem dX7_init_1 : decode cX7_init 1 = .ok (.invokespecial 3, 3) := by decide +kernel
theorem dX7_init_4 : decode cX7_init 4 = .ok (.aload_n 0, 1) := by decide +kernel
theorem dX7_init_5 : decode cX7_init 5 = .ok (.sipush 600, 3) := by decide +kernel
theorem dX7_init_8 : decode cX7_init 8 = .ok (.newarray .byte, 2) := by decide +kernel
theorem dX7_init_10 : decode cX7_init 10 = .ok (.putfield 9, 3) := by decide +kernel
theorem dX7_init_13 : decode cX7_init 13 = .ok (.aload_n 0, 1) := by decide +kernel
theorem dX7_init_14 : decode cX7_init 14 = .ok (.iconst 0, 1) := by decide +kernel
theorem dX7_init_15 : decode cX7_init 15 = .ok (.putfield 15, 3) := by decide +kernel
theorem dX7_init_18 : decode cX7_init 18 = .ok (.aload_n 0, 1) := by decide +kernel
theorem dX7_init_19 : decode cX7_init 19 = .ok (.iconst 0, 1) := by decide +kernel
theorem dX7_init_20 : decode cX7_init 20 = .ok (.putfield 19, 3) := by decide +kernel
theorem dX7_init_23 : decode cX7_init 23 = .ok (.aload_n 0, 1) := by decide +kernel
theorem dX7_init_24 : decode cX7_init 24 = .ok (.iconst 0, 1) := by decide +kernel
theorem dX7_init_25 : decode cX7_init 25 = .ok (.putfield 22, 3) := by decide +kernel
theorem dX7_init_28 : decode cX7_init 28 = .ok (.aload_n 0, 1) := by decide +kernel
theorem dX7_init_29 : decode cX7_init 29 = .ok (.iconst 0, 1) := by decide +kernel
theorem dX7_init_30 : decode cX7_init 30 = .ok (.putfield 25, 3) := by decide +kernel
theorem dX7_init_33 : decode cX7_init 33 = .ok (.aload_n 0, 1) := by decide +kernel
theorem dX7_init_34 : decode cX7_init 34 = .ok (.iconst 0, 1) := by decide +kernel
theorem dX7_init_35 : decode cX7_init 35 = .ok (.putfield 28, 3) := by decide +kernel
theorem dX7_init_38 : decode cX7_init 38 = .ok (.return_, 1) := by decide +kernel
theorem dX7_open_0 : decode cX7_open 0 = .ok (.aload_n 1, 1) := by decide +kernel
theorem dX7_open_1 : decode cX7_open 1 = .ok (.iconst 0, 1) := by decide +kernel
theorem dX7_open_2 : decode cX7_open 2 = .ok (.aload_n 0, 1) := by decide +kernel
theorem dX7_open_3 : decode cX7_open 3 = .ok (.getfield 9, 3) := by decide +kernel
theorem dX7_open_6 : decode cX7_open 6 = .ok (.iconst 0, 1) := by decide +kernel
theorem dX7_open_7 : decode cX7_open 7 = .ok (.iload_n 2, 1) := by decide +kernel
theorem dX7_open_8 : decode cX7_open 8 = .ok (.invokestatic 31, 3) := by decide +kernel
theorem dX7_open_11 : decode cX7_open 11 = .ok (.aload_n 0, 1) := by decide +kernel
theorem dX7_open_12 : decode cX7_open 12 = .ok (.iload_n 2, 1) := by decide +kernel
theorem dX7_open_13 : decode cX7_open 13 = .ok (.putfield 15, 3) := by decide +kernel
theorem dX7_open_16 : decode cX7_open 16 = .ok (.aload_n 0, 1) := by decide +kernel
theorem dX7_open_17 : decode cX7_open 17 = .ok (.iconst 0, 1) := by decide +kernel
theorem dX7_open_18 : decode cX7_open 18 = .ok (.putfield 25, 3) := by decide +kernel
theorem dX7_open_21 : decode cX7_open 21 = .ok (.aload_n 0, 1) := by decide +kernel
theorem dX7_open_22 : decode cX7_open 22 = .ok (.invokevirtual 37, 3) := by decide +kernel
theorem dX7_open_25 : decode cX7_open 25 = .ok (.return_, 1) := by decide +kernel
theorem dX7_step_0 : decode cX7_step 0 = .ok (.aload_n 0, 1) := by decide +kernel
theorem dX7_step_1 : decode cX7_step 1 = .ok (.aload_n 0, 1) := by decide +kernel
theorem dX7_step_2 : decode cX7_step 2 = .ok (.getfield 25, 3) := by decide +kernel
theorem dX7_step_5 : decode cX7_step 5 = .ok (.putfield 22, 3) := by decide +kernel
theorem dX7_step_8 : decode cX7_step 8 = .ok (.aload_n 0, 1) := by decide +kernel
theorem dX7_step_9 : decode cX7_step 9 = .ok (.getfield 22, 3) := by decide +kernel
theorem dX7_step_12 : decode cX7_step 12 = .ok (.aload_n 0, 1) := by decide +kernel
theorem dX7_step_13 : decode cX7_step 13 = .ok (.getfield 15, 3) := by decide +kernel
theorem dX7_step_16 : decode cX7_step 16 = .ok (.if_icmp .ge 31, 3) := by decide +kernel
theorem dX7_step_19 : decode cX7_step 19 = .ok (.aload_n 0, 1) := by decide +kernel
theorem dX7_step_20 : decode cX7_step 20 = .ok (.getfield 9, 3) := by decide +kernel
theorem dX7_step_23 : decode cX7_step 23 = .ok (.aload_n 0, 1) := by decide +kernel
theorem dX7_step_24 : decode cX7_step 24 = .ok (.getfield 22, 3) := by decide +kernel
theorem dX7_step_27 : decode cX7_step 27 = .ok (.baload, 1) := by decide +kernel
theorem dX7_step_28 : decode cX7_step 28 = .ok (.invokestatic 40, 3) := by decide +kernel
theorem dX7_step_31 : decode cX7_step 31 = .ok (.ifCond .eq 16, 3) := by decide +kernel
theorem dX7_step_34 : decode cX7_step 34 = .ok (.aload_n 0, 1) := by decide +kernel
theorem dX7_step_35 : decode cX7_step 35 = .ok (.dup, 1) := by decide +kernel
theorem dX7_step_36 : decode cX7_step 36 = .ok (.getfield 22, 3) := by decide +kernel
theorem dX7_step_39 : decode cX7_step 39 = .ok (.iconst 1, 1) := by decide +kernel
theorem dX7_step_40 : decode cX7_step 40 = .ok (.iadd, 1) := by decide +kernel
theorem dX7_step_41 : decode cX7_step 41 = .ok (.putfield 22, 3) := by decide +kernel
theorem dX7_step_44 : decode cX7_step 44 = .ok (.goto (-36), 3) := by decide +kernel
theorem dX7_step_47 : decode cX7_step 47 = .ok (.aload_n 0, 1) := by decide +kernel
theorem dX7_step_48 : decode cX7_step 48 = .ok (.aload_n 0, 1) := by decide +kernel
theorem dX7_step_49 : decode cX7_step 49 = .ok (.getfield 22, 3) := by decide +kernel
theorem dX7_step_52 : decode cX7_step 52 = .ok (.putfield 25, 3) := by decide +kernel
theorem dX7_step_55 : decode cX7_step 55 = .ok (.aload_n 0, 1) := by decide +kernel
theorem dX7_step_56 : decode cX7_step 56 = .ok (.getfield 22, 3) := by decide +kernel
theorem dX7_step_59 : decode cX7_step 59 = .ok (.aload_n 0, 1) := by decide +kernel
theorem dX7_step_60 : decode cX7_step 60 = .ok (.getfield 15, 3) := by decide +kernel
theorem dX7_step_63 : decode cX7_step 63 = .ok (.if_icmp .lt 11, 3) := by decide +kernel
theorem dX7_step_66 : decode cX7_step 66 = .ok (.aload_n 0, 1) := by decide +kernel
theorem dX7_step_67 : decode cX7_step 67 = .ok (.iconst 0, 1) := by decide +kernel
theorem dX7_step_68 : decode cX7_step 68 = .ok (.putfield 19, 3) := by decide +kernel
theorem dX7_step_71 : decode cX7_step 71 = .ok (.goto 85, 3) := by decide +kernel
theorem dX7_step_74 : decode cX7_step 74 = .ok (.aload_n 0, 1) := by decide +kernel
theorem dX7_step_75 : decode cX7_step 75 = .ok (.getfield 9, 3) := by decide +kernel
theorem dX7_step_78 : decode cX7_step 78 = .ok (.aload_n 0, 1) := by decide +kernel
theorem dX7_step_79 : decode cX7_step 79 = .ok (.getfield 22, 3) := by decide +kernel
theorem dX7_step_82 : decode cX7_step 82 = .ok (.baload, 1) := by decide +kernel
theorem dX7_step_83 : decode cX7_step 83 = .ok (.invokestatic 44, 3) := by decide +kernel
theorem dX7_step_86 : decode cX7_step 86 = .ok (.ifCond .eq 15, 3) := by decide +kernel
theorem dX7_step_89 : decode cX7_step 89 = .ok (.aload_n 0, 1) := by decide +kernel
theorem dX7_step_90 : decode cX7_step 90 = .ok (.iconst 1, 1) := by decide +kernel
theorem dX7_step_91 : decode cX7_step 91 = .ok (.putfield 19, 3) := by decide +kernel
theorem dX7_step_94 : decode cX7_step 94 = .ok (.aload_n 0, 1) := by decide +kernel
theorem dX7_step_95 : decode cX7_step 95 = .ok (.invokevirtual 47, 3) := by decide +kernel
theorem dX7_step_98 : decode cX7_step 98 = .ok (.goto 58, 3) := by decide +kernel
theorem dX7_step_101 : decode cX7_step 101 = .ok (.aload_n 0, 1) := by decide +kernel
theorem dX7_step_102 : decode cX7_step 102 = .ok (.getfield 9, 3) := by decide +kernel
theorem dX7_step_105 : decode cX7_step 105 = .ok (.aload_n 0, 1) := by decide +kernel
theorem dX7_step_106 : decode cX7_step 106 = .ok (.getfield 22, 3) := by decide +kernel
theorem dX7_step_109 : decode cX7_step 109 = .ok (.baload, 1) := by decide +kernel
theorem dX7_step_110 : decode cX7_step 110 = .ok (.invokestatic 50, 3) := by decide +kernel
theorem dX7_step_113 : decode cX7_step 113 = .ok (.ifCond .eq 10, 3) := by decide +kernel
theorem dX7_step_116 : decode cX7_step 116 = .ok (.aload_n 0, 1) := by decide +kernel
theorem dX7_step_117 : decode cX7_step 117 = .ok (.invokevirtual 53, 3) := by decide +kernel
theorem dX7_step_120 : decode cX7_step 120 = .ok (.goto 36, 3) := by decide +kernel
theorem dX7_step_123 : decode cX7_step 123 = .ok (.aload_n 0, 1) := by decide +kernel
theorem dX7_step_124 : decode cX7_step 124 = .ok (.aload_n 0, 1) := by decide +kernel
theorem dX7_step_125 : decode cX7_step 125 = .ok (.getfield 9, 3) := by decide +kernel
theorem dX7_step_128 : decode cX7_step 128 = .ok (.aload_n 0, 1) := by decide +kernel
theorem dX7_step_129 : decode cX7_step 129 = .ok (.getfield 22, 3) := by decide +kernel
theorem dX7_step_132 : decode cX7_step 132 = .ok (.baload, 1) := by decide +kernel
theorem dX7_step_133 : decode cX7_step 133 = .ok (.bipush 59, 2) := by decide +kernel
theorem dX7_step_135 : decode cX7_step 135 = .ok (.if_icmp .ne 7, 3) := by decide +kernel
theorem dX7_step_138 : decode cX7_step 138 = .ok (.iconst 3, 1) := by decide +kernel
theorem dX7_step_139 : decode cX7_step 139 = .ok (.goto 4, 3) := by decide +kernel
theorem dX7_step_142 : decode cX7_step 142 = .ok (.iconst 4, 1) := by decide +kernel
theorem dX7_step_143 : decode cX7_step 143 = .ok (.putfield 19, 3) := by decide +kernel
theorem dX7_step_146 : decode cX7_step 146 = .ok (.aload_n 0, 1) := by decide +kernel
theorem dX7_step_147 : decode cX7_step 147 = .ok (.dup, 1) := by decide +kernel
theorem dX7_step_148 : decode cX7_step 148 = .ok (.getfield 25, 3) := by decide +kernel
theorem dX7_step_151 : decode cX7_step 151 = .ok (.iconst 1, 1) := by decide +kernel
theorem dX7_step_152 : decode cX7_step 152 = .ok (.iadd, 1) := by decide +kernel
theorem dX7_step_153 : decode cX7_step 153 = .ok (.putfield 25, 3) := by decide +kernel
theorem dX7_step_156 : decode cX7_step 156 = .ok (.return_, 1) := by decide +kernel
theorem dX7_skipLetters_0 : decode cX7_skipLetters 0 = .ok (.aload_n 0, 1) := by decide +kernel
theorem dX7_skipLetters_1 : decode cX7_skipLetters 1 = .ok (.getfield 25, 3) := by decide +kernel
theorem dX7_skipLetters_4 : decode cX7_skipLetters 4 = .ok (.aload_n 0, 1) := by decide +kernel
theorem dX7_skipLetters_5 : decode cX7_skipLetters 5 = .ok (.getfield 15, 3) := by decide +kernel
theorem dX7_skipLetters_8 : decode cX7_skipLetters 8 = .ok (.if_icmp .ge 31, 3) := by decide +kernel
theorem dX7_skipLetters_11 : decode cX7_skipLetters 11 = .ok (.aload_n 0, 1) := by decide +kernel
theorem dX7_skipLetters_12 : decode cX7_skipLetters 12 = .ok (.getfield 9, 3) := by decide +kernel
theorem dX7_skipLetters_15 : decode cX7_skipLetters 15 = .ok (.aload_n 0, 1) := by decide +kernel
theorem dX7_skipLetters_16 : decode cX7_skipLetters 16 = .ok (.getfield 25, 3) := by decide +kernel
theorem dX7_skipLetters_19 : decode cX7_skipLetters 19 = .ok (.baload, 1) := by decide +kernel
theorem dX7_skipLetters_20 : decode cX7_skipLetters 20 = .ok (.invokestatic 44, 3) := by decide +kernel
theorem dX7_skipLetters_23 : decode cX7_skipLetters 23 = .ok (.ifCond .eq 16, 3) := by decide +kernel
theorem dX7_skipLetters_26 : decode cX7_skipLetters 26 = .ok (.aload_n 0, 1) := by decide +kernel
theorem dX7_skipLetters_27 : decode cX7_skipLetters 27 = .ok (.dup, 1) := by decide +kernel
theorem dX7_skipLetters_28 : decode cX7_skipLetters 28 = .ok (.getfield 25, 3) := by decide +kernel
theorem dX7_skipLetters_31 : decode cX7_skipLetters 31 = .ok (.iconst 1, 1) := by decide +kernel
theorem dX7_skipLetters_32 : decode cX7_skipLetters 32 = .ok (.iadd, 1) := by decide +kernel
theorem dX7_skipLetters_33 : decode cX7_skipLetters 33 = .ok (.putfield 25, 3) := by decide +kernel
theorem dX7_skipLetters_36 : decode cX7_skipLetters 36 = .ok (.goto (-36), 3) := by decide +kernel
theorem dX7_skipLetters_39 : decode cX7_skipLetters 39 = .ok (.return_, 1) := by decide +kernel
theorem dX7_takeDigits_0 : decode cX7_takeDigits 0 = .ok (.aload_n 0, 1) := by decide +kernel
theorem dX7_takeDigits_1 : decode cX7_takeDigits 1 = .ok (.iconst 0, 1) := by decide +kernel
theorem dX7_takeDigits_2 : decode cX7_takeDigits 2 = .ok (.putfield 28, 3) := by decide +kernel
theorem dX7_takeDigits_5 : decode cX7_takeDigits 5 = .ok (.aload_n 0, 1) := by decide +kernel
theorem dX7_takeDigits_6 : decode cX7_takeDigits 6 = .ok (.getfield 25, 3) := by decide +kernel
theorem dX7_takeDigits_9 : decode cX7_takeDigits 9 = .ok (.aload_n 0, 1) := by decide +kernel
theorem dX7_takeDigits_10 : decode cX7_takeDigits 10 = .ok (.getfield 15, 3) := by decide +kernel
theorem dX7_takeDigits_13 : decode cX7_takeDigits 13 = .ok (.if_icmp .ge 55, 3) := by decide +kernel
theorem dX7_takeDigits_16 : decode cX7_takeDigits 16 = .ok (.aload_n 0, 1) := by decide +kernel
theorem dX7_takeDigits_17 : decode cX7_takeDigits 17 = .ok (.getfield 9, 3) := by decide +kernel
theorem dX7_takeDigits_20 : decode cX7_takeDigits 20 = .ok (.aload_n 0, 1) := by decide +kernel
theorem dX7_takeDigits_21 : decode cX7_takeDigits 21 = .ok (.getfield 25, 3) := by decide +kernel
theorem dX7_takeDigits_24 : decode cX7_takeDigits 24 = .ok (.baload, 1) := by decide +kernel
theorem dX7_takeDigits_25 : decode cX7_takeDigits 25 = .ok (.invokestatic 50, 3) := by decide +kernel
theorem dX7_takeDigits_28 : decode cX7_takeDigits 28 = .ok (.ifCond .eq 40, 3) := by decide +kernel
theorem dX7_takeDigits_31 : decode cX7_takeDigits 31 = .ok (.aload_n 0, 1) := by decide +kernel
theorem dX7_takeDigits_32 : decode cX7_takeDigits 32 = .ok (.aload_n 0, 1) := by decide +kernel
theorem dX7_takeDigits_33 : decode cX7_takeDigits 33 = .ok (.getfield 28, 3) := by decide +kernel
theorem dX7_takeDigits_36 : decode cX7_takeDigits 36 = .ok (.bipush 10, 2) := by decide +kernel
theorem dX7_takeDigits_38 : decode cX7_takeDigits 38 = .ok (.imul, 1) := by decide +kernel
theorem dX7_takeDigits_39 : decode cX7_takeDigits 39 = .ok (.aload_n 0, 1) := by decide +kernel
theorem dX7_takeDigits_40 : decode cX7_takeDigits 40 = .ok (.getfield 9, 3) := by decide +kernel
theorem dX7_takeDigits_43 : decode cX7_takeDigits 43 = .ok (.aload_n 0, 1) := by decide +kernel
theorem dX7_takeDigits_44 : decode cX7_takeDigits 44 = .ok (.getfield 25, 3) := by decide +kernel
theorem dX7_takeDigits_47 : decode cX7_takeDigits 47 = .ok (.baload, 1) := by decide +kernel
theorem dX7_takeDigits_48 : decode cX7_takeDigits 48 = .ok (.bipush 48, 2) := by decide +kernel
theorem dX7_takeDigits_50 : decode cX7_takeDigits 50 = .ok (.isub, 1) := by decide +kernel
theorem dX7_takeDigits_51 : decode cX7_takeDigits 51 = .ok (.iadd, 1) := by decide +kernel
theorem dX7_takeDigits_52 : decode cX7_takeDigits 52 = .ok (.putfield 28, 3) := by decide +kernel
theorem dX7_takeDigits_55 : decode cX7_takeDigits 55 = .ok (.aload_n 0, 1) := by decide +kernel
theorem dX7_takeDigits_56 : decode cX7_takeDigits 56 = .ok (.dup, 1) := by decide +kernel
theorem dX7_takeDigits_57 : decode cX7_takeDigits 57 = .ok (.getfield 25, 3) := by decide +kernel
theorem dX7_takeDigits_60 : decode cX7_takeDigits 60 = .ok (.iconst 1, 1) := by decide +kernel
theorem dX7_takeDigits_61 : decode cX7_takeDigits 61 = .ok (.iadd, 1) := by decide +kernel
theorem dX7_takeDigits_62 : decode cX7_takeDigits 62 = .ok (.putfield 25, 3) := by decide +kernel
theorem dX7_takeDigits_65 : decode cX7_takeDigits 65 = .ok (.goto (-60), 3) := by decide +kernel
theorem dX7_takeDigits_68 : decode cX7_takeDigits 68 = .ok (.aload_n 0, 1) := by decide +kernel
theorem dX7_takeDigits_69 : decode cX7_takeDigits 69 = .ok (.aload_n 0, 1) := by decide +kernel
theorem dX7_takeDigits_70 : decode cX7_takeDigits 70 = .ok (.getfield 25, 3) := by decide +kernel
theorem dX7_takeDigits_73 : decode cX7_takeDigits 73 = .ok (.aload_n 0, 1) := by decide +kernel
theorem dX7_takeDigits_74 : decode cX7_takeDigits 74 = .ok (.getfield 22, 3) := by decide +kernel
theorem dX7_takeDigits_77 : decode cX7_takeDigits 77 = .ok (.isub, 1) := by decide +kernel
theorem dX7_takeDigits_78 : decode cX7_takeDigits 78 = .ok (.iconst 2, 1) := by decide +kernel
theorem dX7_takeDigits_79 : decode cX7_takeDigits 79 = .ok (.if_icmp .gt 7, 3) := by decide +kernel
theorem dX7_takeDigits_82 : decode cX7_takeDigits 82 = .ok (.iconst 2, 1) := by decide +kernel
theorem dX7_takeDigits_83 : decode cX7_takeDigits 83 = .ok (.goto 4, 3) := by decide +kernel
theorem dX7_takeDigits_86 : decode cX7_takeDigits 86 = .ok (.iconst 4, 1) := by decide +kernel
theorem dX7_takeDigits_87 : decode cX7_takeDigits 87 = .ok (.putfield 19, 3) := by decide +kernel
theorem dX7_takeDigits_90 : decode cX7_takeDigits 90 = .ok (.return_, 1) := by decide +kernel
theorem dX7_isWord_0 : decode cX7_isWord 0 = .ok (.aload_n 0, 1) := by decide +kernel
theorem dX7_isWord_1 : decode cX7_isWord 1 = .ok (.getfield 19, 3) := by decide +kernel
theorem dX7_isWord_4 : decode cX7_isWord 4 = .ok (.iconst 1, 1) := by decide +kernel
theorem dX7_isWord_5 : decode cX7_isWord 5 = .ok (.if_icmp .ne 19, 3) := by decide +kernel
theorem dX7_isWord_8 : decode cX7_isWord 8 = .ok (.aload_n 0, 1) := by decide +kernel
theorem dX7_isWord_9 : decode cX7_isWord 9 = .ok (.getfield 25, 3) := by decide +kernel
theorem dX7_isWord_12 : decode cX7_isWord 12 = .ok (.aload_n 0, 1) := by decide +kernel
theorem dX7_isWord_13 : decode cX7_isWord 13 = .ok (.getfield 22, 3) := by decide +kernel
theorem dX7_isWord_16 : decode cX7_isWord 16 = .ok (.isub, 1) := by decide +kernel
theorem dX7_isWord_17 : decode cX7_isWord 17 = .ok (.aload_n 1, 1) := by decide +kernel
theorem dX7_isWord_18 : decode cX7_isWord 18 = .ok (.invokevirtual 56, 3) := by decide +kernel
theorem dX7_isWord_21 : decode cX7_isWord 21 = .ok (.if_icmp .eq 5, 3) := by decide +kernel
theorem dX7_isWord_24 : decode cX7_isWord 24 = .ok (.iconst 0, 1) := by decide +kernel
theorem dX7_isWord_25 : decode cX7_isWord 25 = .ok (.ireturn, 1) := by decide +kernel
theorem dX7_isWord_26 : decode cX7_isWord 26 = .ok (.iconst 0, 1) := by decide +kernel
theorem dX7_isWord_27 : decode cX7_isWord 27 = .ok (.istore_n 2, 1) := by decide +kernel
theorem dX7_isWord_28 : decode cX7_isWord 28 = .ok (.iload_n 2, 1) := by decide +kernel
theorem dX7_isWord_29 : decode cX7_isWord 29 = .ok (.aload_n 1, 1) := by decide +kernel
theorem dX7_isWord_30 : decode cX7_isWord 30 = .ok (.invokevirtual 56, 3) := by decide +kernel
theorem dX7_isWord_33 : decode cX7_isWord 33 = .ok (.if_icmp .ge 30, 3) := by decide +kernel
theorem dX7_isWord_36 : decode cX7_isWord 36 = .ok (.aload_n 0, 1) := by decide +kernel
theorem dX7_isWord_37 : decode cX7_isWord 37 = .ok (.getfield 9, 3) := by decide +kernel
theorem dX7_isWord_40 : decode cX7_isWord 40 = .ok (.aload_n 0, 1) := by decide +kernel
theorem dX7_isWord_41 : decode cX7_isWord 41 = .ok (.getfield 22, 3) := by decide +kernel
theorem dX7_isWord_44 : decode cX7_isWord 44 = .ok (.iload_n 2, 1) := by decide +kernel
theorem dX7_isWord_45 : decode cX7_isWord 45 = .ok (.iadd, 1) := by decide +kernel
theorem dX7_isWord_46 : decode cX7_isWord 46 = .ok (.baload, 1) := by decide +kernel
theorem dX7_isWord_47 : decode cX7_isWord 47 = .ok (.aload_n 1, 1) := by decide +kernel
theorem dX7_isWord_48 : decode cX7_isWord 48 = .ok (.iload_n 2, 1) := by decide +kernel
theorem dX7_isWord_49 : decode cX7_isWord 49 = .ok (.invokevirtual 61, 3) := by decide +kernel
theorem dX7_isWord_52 : decode cX7_isWord 52 = .ok (.if_icmp .eq 5, 3) := by decide +kernel
theorem dX7_isWord_55 : decode cX7_isWord 55 = .ok (.iconst 0, 1) := by decide +kernel
theorem dX7_isWord_56 : decode cX7_isWord 56 = .ok (.ireturn, 1) := by decide +kernel
theorem dX7_isWord_57 : decode cX7_isWord 57 = .ok (.iinc 2 1, 3) := by decide +kernel
theorem dX7_isWord_60 : decode cX7_isWord 60 = .ok (.goto (-32), 3) := by decide +kernel
theorem dX7_isWord_63 : decode cX7_isWord 63 = .ok (.iconst 1, 1) := by decide +kernel
theorem dX7_isWord_64 : decode cX7_isWord 64 = .ok (.ireturn, 1) := by decide +kernel
theorem dX7_isBlank_0 : decode cX7_isBlank 0 = .ok (.iload_n 0, 1) := by decide +kernel
theorem dX7_isBlank_1 : decode cX7_isBlank 1 = .ok (.bipush 10, 2) := by decide +kernel
theorem dX7_isBlank_3 : decode cX7_isBlank 3 = .ok (.if_icmp .eq 9, 3) := by decide +kernel
theorem dX7_isBlank_6 : decode cX7_isBlank 6 = .ok (.iload_n 0, 1) := by decide +kernel
theorem dX7_isBlank_7 : decode cX7_isBlank 7 = .ok (.bipush 32, 2) := by decide +kernel
theorem dX7_isBlank_9 : decode cX7_isBlank 9 = .ok (.if_icmp .ne 7, 3) := by decide +kernel
theorem dX7_isBlank_12 : decode cX7_isBlank 12 = .ok (.iconst 1, 1) := by decide +kernel
theorem dX7_isBlank_13 : decode cX7_isBlank 13 = .ok (.goto 4, 3) := by decide +kernel
theorem dX7_isBlank_16 : decode cX7_isBlank 16 = .ok (.iconst 0, 1) := by decide +kernel
theorem dX7_isBlank_17 : decode cX7_isBlank 17 = .ok (.ireturn, 1) := by decide +kernel
theorem dX7_isLetter_0 : decode cX7_isLetter 0 = .ok (.iload_n 0, 1) := by decide +kernel
theorem dX7_isLetter_1 : decode cX7_isLetter 1 = .ok (.bipush 97, 2) := by decide +kernel
theorem dX7_isLetter_3 : decode cX7_isLetter 3 = .ok (.if_icmp .lt 13, 3) := by decide +kernel
theorem dX7_isLetter_6 : decode cX7_isLetter 6 = .ok (.iload_n 0, 1) := by decide +kernel
theorem dX7_isLetter_7 : decode cX7_isLetter 7 = .ok (.bipush 122, 2) := by decide +kernel
theorem dX7_isLetter_9 : decode cX7_isLetter 9 = .ok (.if_icmp .gt 7, 3) := by decide +kernel
theorem dX7_isLetter_12 : decode cX7_isLetter 12 = .ok (.iconst 1, 1) := by decide +kernel
theorem dX7_isLetter_13 : decode cX7_isLetter 13 = .ok (.goto 4, 3) := by decide +kernel
theorem dX7_isLetter_16 : decode cX7_isLetter 16 = .ok (.iconst 0, 1) := by decide +kernel
theorem dX7_isLetter_17 : decode cX7_isLetter 17 = .ok (.ireturn, 1) := by decide +kernel
theorem dX7_isDigit_0 : decode cX7_isDigit 0 = .ok (.iload_n 0, 1) := by decide +kernel
theorem dX7_isDigit_1 : decode cX7_isDigit 1 = .ok (.bipush 48, 2) := by decide +kernel
theorem dX7_isDigit_3 : decode cX7_isDigit 3 = .ok (.if_icmp .lt 13, 3) := by decide +kernel
theorem dX7_isDigit_6 : decode cX7_isDigit 6 = .ok (.iload_n 0, 1) := by decide +kernel
theorem dX7_isDigit_7 : decode cX7_isDigit 7 = .ok (.bipush 57, 2) := by decide +kernel
theorem dX7_isDigit_9 : decode cX7_isDigit 9 = .ok (.if_icmp .gt 7, 3) := by decide +kernel
theorem dX7_isDigit_12 : decode cX7_isDigit 12 = .ok (.iconst 1, 1) := by decide +kernel
theorem dX7_isDigit_13 : decode cX7_isDigit 13 = .ok (.goto 4, 3) := by decide +kernel
theorem dX7_isDigit_16 : decode cX7_isDigit 16 = .ok (.iconst 0, 1) := by decide +kernel
theorem dX7_isDigit_17 : decode cX7_isDigit 17 = .ok (.ireturn, 1) := by decide +kernel
theorem dX8_init_0 : decode cX8_init 0 = .ok (.aload_n 0, 1) := by decide +kernel
theorem dX8_init_1 : decode cX8_init 1 = .ok (.invokespecial 3, 3) := by decide +kernel
theorem dX8_init_4 : decode cX8_init 4 = .ok (.aload_n 0, 1) := by decide +kernel
theorem dX8_init_5 : decode cX8_init 5 = .ok (.sipush 600, 3) := by decide +kernel
theorem dX8_init_8 : decode cX8_init 8 = .ok (.newarray .byte, 2) := by decide +kernel
theorem dX8_init_10 : decode cX8_init 10 = .ok (.putfield 9, 3) := by decide +kernel
theorem dX8_init_13 : decode cX8_init 13 = .ok (.aload_n 0, 1) := by decide +kernel
theorem dX8_init_14 : decode cX8_init 14 = .ok (.iconst 0, 1) := by decide +kernel
theorem dX8_init_15 : decode cX8_init 15 = .ok (.putfield 15, 3) := by decide +kernel
theorem dX8_init_18 : decode cX8_init 18 = .ok (.aload_n 0, 1) := by decide +kernel
theorem dX8_init_19 : decode cX8_init 19 = .ok (.iconst 0, 1) := by decide +kernel
theorem dX8_init_20 : decode cX8_init 20 = .ok (.putfield 19, 3) := by decide +kernel
theorem dX8_init_23 : decode cX8_init 23 = .ok (.aload_n 0, 1) := by decide +kernel
theorem dX8_init_24 : decode cX8_init 24 = .ok (.iconst (-1), 1) := by decide +kernel
theorem dX8_init_25 : decode cX8_init 25 = .ok (.putfield 22, 3) := by decide +kernel
theorem dX8_init_28 : decode cX8_init 28 = .ok (.aload_n 0, 1) := by decide +kernel
theorem dX8_init_29 : decode cX8_init 29 = .ok (.iconst 3, 1) := by decide +kernel
theorem dX8_init_30 : decode cX8_init 30 = .ok (.newarray .int, 2) := by decide +kernel
theorem dX8_init_32 : decode cX8_init 32 = .ok (.putfield 25, 3) := by decide +kernel
theorem dX8_init_35 : decode cX8_init 35 = .ok (.aload_n 0, 1) := by decide +kernel
theorem dX8_init_36 : decode cX8_init 36 = .ok (.iconst 2, 1) := by decide +kernel
theorem dX8_init_37 : decode cX8_init 37 = .ok (.anewarray 29, 3) := by decide +kernel
theorem dX8_init_40 : decode cX8_init 40 = .ok (.putfield 31, 3) := by decide +kernel
theorem dX8_init_43 : decode cX8_init 43 = .ok (.aload_n 0, 1) := by decide +kernel
theorem dX8_init_44 : decode cX8_init 44 = .ok (.iconst 2, 1) := by decide +kernel
theorem dX8_init_45 : decode cX8_init 45 = .ok (.anewarray 35, 3) := by decide +kernel
theorem dX8_init_48 : decode cX8_init 48 = .ok (.putfield 37, 3) := by decide +kernel
theorem dX8_init_51 : decode cX8_init 51 = .ok (.aload_n 0, 1) := by decide +kernel
theorem dX8_init_52 : decode cX8_init 52 = .ok (.iconst 2, 1) := by decide +kernel
theorem dX8_init_53 : decode cX8_init 53 = .ok (.anewarray 35, 3) := by decide +kernel
theorem dX8_init_56 : decode cX8_init 56 = .ok (.putfield 41, 3) := by decide +kernel
theorem dX8_init_59 : decode cX8_init 59 = .ok (.iconst 0, 1) := by decide +kernel
theorem dX8_init_60 : decode cX8_init 60 = .ok (.istore_n 1, 1) := by decide +kernel
theorem dX8_init_61 : decode cX8_init 61 = .ok (.iload_n 1, 1) := by decide +kernel
theorem dX8_init_62 : decode cX8_init 62 = .ok (.iconst 2, 1) := by decide +kernel
theorem dX8_init_63 : decode cX8_init 63 = .ok (.if_icmp .ge 54, 3) := by decide +kernel
theorem dX8_init_66 : decode cX8_init 66 = .ok (.aload_n 0, 1) := by decide +kernel
theorem dX8_init_67 : decode cX8_init 67 = .ok (.getfield 31, 3) := by decide +kernel
theorem dX8_init_70 : decode cX8_init 70 = .ok (.iload_n 1, 1) := by decide +kernel
theorem dX8_init_71 : decode cX8_init 71 = .ok (.new 29, 3) := by decide +kernel
theorem dX8_init_74 : decode cX8_init 74 = .ok (.dup, 1) := by decide +kernel
theorem dX8_init_75 : decode cX8_init 75 = .ok (.invokespecial 44, 3) := by decide +kernel
theorem dX8_init_78 : decode cX8_init 78 = .ok (.aastore, 1) := by decide +kernel
theorem dX8_init_79 : decode cX8_init 79 = .ok (.aload_n 0, 1) := by decide +kernel
theorem dX8_init_80 : decode cX8_init 80 = .ok (.getfield 37, 3) := by decide +kernel
theorem dX8_init_83 : decode cX8_init 83 = .ok (.iload_n 1, 1) := by decide +kernel
theorem dX8_init_84 : decode cX8_init 84 = .ok (.new 35, 3) := by decide +kernel
theorem dX8_init_87 : decode cX8_init 87 = .ok (.dup, 1) := by decide +kernel
theorem dX8_init_88 : decode cX8_init 88 = .ok (.bipush 40, 2) := by decide +kernel
theorem dX8_init_90 : decode cX8_init 90 = .ok (.iconst 3, 1) := by decide +kernel
theorem dX8_init_91 : decode cX8_init 91 = .ok (.invokespecial 45, 3) := by decide +kernel
theorem dX8_init_94 : decode cX8_init 94 = .ok (.aastore, 1) := by decide +kernel
theorem dX8_init_95 : decode cX8_init 95 = .ok (.aload_n 0, 1) := by decide +kernel
theorem dX8_init_96 : decode cX8_init 96 = .ok (.getfield 41, 3) := by decide +kernel
theorem dX8_init_99 : decode cX8_init 99 = .ok (.iload_n 1, 1) := by decide +kernel
theorem dX8_init_100 : decode cX8_init 100 = .ok (.new 35, 3) := by decide +kernel
theorem dX8_init_103 : decode cX8_init 103 = .ok (.dup, 1) := by decide +kernel
theorem dX8_init_104 : decode cX8_init 104 = .ok (.bipush 8, 2) := by decide +kernel
theorem dX8_init_106 : decode cX8_init 106 = .ok (.iconst 2, 1) := by decide +kernel
theorem dX8_init_107 : decode cX8_init 107 = .ok (.invokespecial 45, 3) := by decide +kernel
theorem dX8_init_110 : decode cX8_init 110 = .ok (.aastore, 1) := by decide +kernel
theorem dX8_init_111 : decode cX8_init 111 = .ok (.iinc 1 1, 3) := by decide +kernel
theorem dX8_init_114 : decode cX8_init 114 = .ok (.goto (-53), 3) := by decide +kernel
theorem dX8_init_117 : decode cX8_init 117 = .ok (.return_, 1) := by decide +kernel
theorem dX8_putNumber_0 : decode cX8_putNumber 0 = .ok (.bipush 24, 2) := by decide +kernel
theorem dX8_putNumber_2 : decode cX8_putNumber 2 = .ok (.istore_n 2, 1) := by decide +kernel
theorem dX8_putNumber_3 : decode cX8_putNumber 3 = .ok (.iload_n 2, 1) := by decide +kernel
theorem dX8_putNumber_4 : decode cX8_putNumber 4 = .ok (.ifCond .lt 42, 3) := by decide +kernel
theorem dX8_putNumber_7 : decode cX8_putNumber 7 = .ok (.aload_n 0, 1) := by decide +kernel
theorem dX8_putNumber_8 : decode cX8_putNumber 8 = .ok (.getfield 15, 3) := by decide +kernel
theorem dX8_putNumber_11 : decode cX8_putNumber 11 = .ok (.sipush 600, 3) := by decide +kernel
theorem dX8_putNumber_14 : decode cX8_putNumber 14 = .ok (.if_icmp .ge 32, 3) := by decide +kernel
theorem dX8_putNumber_17 : decode cX8_putNumber 17 = .ok (.aload_n 0, 1) := by decide +kernel
theorem dX8_putNumber_18 : decode cX8_putNumber 18 = .ok (.getfield 9, 3) := by decide +kernel
theorem dX8_putNumber_21 : decode cX8_putNumber 21 = .ok (.aload_n 0, 1) := by decide +kernel
theorem dX8_putNumber_22 : decode cX8_putNumber 22 = .ok (.getfield 15, 3) := by decide +kernel
theorem dX8_putNumber_25 : decode cX8_putNumber 25 = .ok (.iload_n 1, 1) := by decide +kernel
theorem dX8_putNumber_26 : decode cX8_putNumber 26 = .ok (.iload_n 2, 1) := by decide +kernel
theorem dX8_putNumber_27 : decode cX8_putNumber 27 = .ok (.ishr, 1) := by decide +kernel
theorem dX8_putNumber_28 : decode cX8_putNumber 28 = .ok (.i2b, 1) := by decide +kernel
theorem dX8_putNumber_29 : decode cX8_putNumber 29 = .ok (.bastore, 1) := by decide +kernel
theorem dX8_putNumber_30 : decode cX8_putNumber 30 = .ok (.aload_n 0, 1) := by decide +kernel
theorem dX8_putNumber_31 : decode cX8_putNumber 31 = .ok (.dup, 1) := by decide +kernel
theorem dX8_putNumber_32 : decode cX8_putNumber 32 = .ok (.getfield 15, 3) := by decide +kernel
theorem dX8_putNumber_35 : decode cX8_putNumber 35 = .ok (.iconst 1, 1) := by decide +kernel
theorem dX8_putNumber_36 : decode cX8_putNumber 36 = .ok (.iadd, 1) := by decide +kernel
theorem dX8_putNumber_37 : decode cX8_putNumber 37 = .ok (.putfield 15, 3) := by decide +kernel
theorem dX8_putNumber_40 : decode cX8_putNumber 40 = .ok (.iinc 2 (-8), 3) := by decide +kernel
theorem dX8_putNumber_43 : decode cX8_putNumber 43 = .ok (.goto (-40), 3) := by decide +kernel
theorem dX8_putNumber_46 : decode cX8_putNumber 46 = .ok (.return_, 1) := by decide +kernel
theorem dX8_copy_0 : decode cX8_copy 0 = .ok (.aload_n 1, 1) := by decide +kernel
theorem dX8_copy_1 : decode cX8_copy 1 = .ok (.getfield 9, 3) := by decide +kernel
theorem dX8_copy_4 : decode cX8_copy 4 = .ok (.iconst 0, 1) := by decide +kernel
theorem dX8_copy_5 : decode cX8_copy 5 = .ok (.aload_n 0, 1) := by decide +kernel
theorem dX8_copy_6 : decode cX8_copy 6 = .ok (.getfield 9, 3) := by decide +kernel
theorem dX8_copy_9 : decode cX8_copy 9 = .ok (.iconst 0, 1) := by decide +kernel
theorem dX8_copy_10 : decode cX8_copy 10 = .ok (.aload_n 1, 1) := by decide +kernel
theorem dX8_copy_11 : decode cX8_copy 11 = .ok (.getfield 15, 3) := by decide +kernel
theorem dX8_copy_14 : decode cX8_copy 14 = .ok (.invokestatic 48, 3) := by decide +kernel
theorem dX8_copy_17 : decode cX8_copy 17 = .ok (.aload_n 0, 1) := by decide +kernel
theorem dX8_copy_18 : decode cX8_copy 18 = .ok (.aload_n 1, 1) := by decide +kernel
theorem dX8_copy_19 : decode cX8_copy 19 = .ok (.getfield 15, 3) := by decide +kernel
theorem dX8_copy_22 : decode cX8_copy 22 = .ok (.putfield 15, 3) := by decide +kernel
theorem dX8_copy_25 : decode cX8_copy 25 = .ok (.aload_n 0, 1) := by decide +kernel
theorem dX8_copy_26 : decode cX8_copy 26 = .ok (.aload_n 1, 1) := by decide +kernel
theorem dX8_copy_27 : decode cX8_copy 27 = .ok (.getfield 19, 3) := by decide +kernel
theorem dX8_copy_30 : decode cX8_copy 30 = .ok (.putfield 19, 3) := by decide +kernel
theorem dX8_copy_33 : decode cX8_copy 33 = .ok (.aload_n 0, 1) := by decide +kernel
theorem dX8_copy_34 : decode cX8_copy 34 = .ok (.aload_n 1, 1) := by decide +kernel
theorem dX8_copy_35 : decode cX8_copy 35 = .ok (.getfield 22, 3) := by decide +kernel
theorem dX8_copy_38 : decode cX8_copy 38 = .ok (.putfield 22, 3) := by decide +kernel
theorem dX8_copy_41 : decode cX8_copy 41 = .ok (.aload_n 1, 1) := by decide +kernel
theorem dX8_copy_42 : decode cX8_copy 42 = .ok (.getfield 25, 3) := by decide +kernel
theorem dX8_copy_45 : decode cX8_copy 45 = .ok (.iconst 0, 1) := by decide +kernel
theorem dX8_copy_46 : decode cX8_copy 46 = .ok (.aload_n 0, 1) := by decide +kernel
theorem dX8_copy_47 : decode cX8_copy 47 = .ok (.getfield 25, 3) := by decide +kernel
theorem dX8_copy_50 : decode cX8_copy 50 = .ok (.iconst 0, 1) := by decide +kernel
theorem dX8_copy_51 : decode cX8_copy 51 = .ok (.iconst 3, 1) := by decide +kernel
theorem dX8_copy_52 : decode cX8_copy 52 = .ok (.invokestatic 48, 3) := by decide +kernel
theorem dX8_copy_55 : decode cX8_copy 55 = .ok (.iconst 0, 1) := by decide +kernel
theorem dX8_copy_56 : decode cX8_copy 56 = .ok (.istore_n 2, 1) := by decide +kernel
theorem dX8_copy_57 : decode cX8_copy 57 = .ok (.iload_n 2, 1) := by decide +kernel
theorem dX8_copy_58 : decode cX8_copy 58 = .ok (.iconst 2, 1) := by decide +kernel
theorem dX8_copy_59 : decode cX8_copy 59 = .ok (.if_icmp .ge 54, 3) := by decide +kernel
theorem dX8_copy_62 : decode cX8_copy 62 = .ok (.aload_n 0, 1) := by decide +kernel
theorem dX8_copy_63 : decode cX8_copy 63 = .ok (.getfield 31, 3) := by decide +kernel
theorem dX8_copy_66 : decode cX8_copy 66 = .ok (.iload_n 2, 1) := by decide +kernel
theorem dX8_copy_67 : decode cX8_copy 67 = .ok (.aaload, 1) := by decide +kernel
theorem dX8_copy_68 : decode cX8_copy 68 = .ok (.aload_n 1, 1) := by decide +kernel
theorem dX8_copy_69 : decode cX8_copy 69 = .ok (.getfield 31, 3) := by decide +kernel
theorem dX8_copy_72 : decode cX8_copy 72 = .ok (.iload_n 2, 1) := by decide +kernel
theorem dX8_copy_73 : decode cX8_copy 73 = .ok (.aaload, 1) := by decide +kernel
theorem dX8_copy_74 : decode cX8_copy 74 = .ok (.invokevirtual 54, 3) := by decide +kernel
theorem dX8_copy_77 : decode cX8_copy 77 = .ok (.aload_n 0, 1) := by decide +kernel
theorem dX8_copy_78 : decode cX8_copy 78 = .ok (.getfield 37, 3) := by decide +kernel
theorem dX8_copy_81 : decode cX8_copy 81 = .ok (.iload_n 2, 1) := by decide +kernel
theorem dX8_copy_82 : decode cX8_copy 82 = .ok (.aaload, 1) := by decide +kernel
theorem dX8_copy_83 : decode cX8_copy 83 = .ok (.aload_n 1, 1) := by decide +kernel
theorem dX8_copy_84 : decode cX8_copy 84 = .ok (.getfield 37, 3) := by decide +kernel
theorem dX8_copy_87 : decode cX8_copy 87 = .ok (.iload_n 2, 1) := by decide +kernel
theorem dX8_copy_88 : decode cX8_copy 88 = .ok (.aaload, 1) := by decide +kernel
theorem dX8_copy_89 : decode cX8_copy 89 = .ok (.invokevirtual 58, 3) := by decide +kernel
theorem dX8_copy_92 : decode cX8_copy 92 = .ok (.aload_n 0, 1) := by decide +kernel
theorem dX8_copy_93 : decode cX8_copy 93 = .ok (.getfield 41, 3) := by decide +kernel
theorem dX8_copy_96 : decode cX8_copy 96 = .ok (.iload_n 2, 1) := by decide +kernel
theorem dX8_copy_97 : decode cX8_copy 97 = .ok (.aaload, 1) := by decide +kernel
theorem dX8_copy_98 : decode cX8_copy 98 = .ok (.aload_n 1, 1) := by decide +kernel
theorem dX8_copy_99 : decode cX8_copy 99 = .ok (.getfield 41, 3) := by decide +kernel
theorem dX8_copy_102 : decode cX8_copy 102 = .ok (.iload_n 2, 1) := by decide +kernel
theorem dX8_copy_103 : decode cX8_copy 103 = .ok (.aaload, 1) := by decide +kernel
theorem dX8_copy_104 : decode cX8_copy 104 = .ok (.invokevirtual 58, 3) := by decide +kernel
theorem dX8_copy_107 : decode cX8_copy 107 = .ok (.iinc 2 1, 3) := by decide +kernel
theorem dX8_copy_110 : decode cX8_copy 110 = .ok (.goto (-53), 3) := by decide +kernel
theorem dX8_copy_113 : decode cX8_copy 113 = .ok (.return_, 1) := by decide +kernel
theorem dX9_init_0 : decode cX9_init 0 = .ok (.aload_n 0, 1) := by decide +kernel
theorem dX9_init_1 : decode cX9_init 1 = .ok (.invokespecial 3, 3) := by decide +kernel
theorem dX9_init_4 : decode cX9_init 4 = .ok (.aload_n 0, 1) := by decide +kernel
theorem dX9_init_5 : decode cX9_init 5 = .ok (.bipush 100, 2) := by decide +kernel
theorem dX9_init_7 : decode cX9_init 7 = .ok (.newarray .int, 2) := by decide +kernel
theorem dX9_init_9 : decode cX9_init 9 = .ok (.putfield 9, 3) := by decide +kernel
theorem dX9_init_12 : decode cX9_init 12 = .ok (.aload_n 0, 1) := by decide +kernel
theorem dX9_init_13 : decode cX9_init 13 = .ok (.bipush 100, 2) := by decide +kernel
theorem dX9_init_15 : decode cX9_init 15 = .ok (.newarray .int, 2) := by decide +kernel
theorem dX9_init_17 : decode cX9_init 17 = .ok (.putfield 15, 3) := by decide +kernel
theorem dX9_init_20 : decode cX9_init 20 = .ok (.aload_n 0, 1) := by decide +kernel
theorem dX9_init_21 : decode cX9_init 21 = .ok (.bipush 100, 2) := by decide +kernel
theorem dX9_init_23 : decode cX9_init 23 = .ok (.newarray .int, 2) := by decide +kernel
theorem dX9_init_25 : decode cX9_init 25 = .ok (.putfield 18, 3) := by decide +kernel
theorem dX9_init_28 : decode cX9_init 28 = .ok (.aload_n 0, 1) := by decide +kernel
theorem dX9_init_29 : decode cX9_init 29 = .ok (.bipush 100, 2) := by decide +kernel
theorem dX9_init_31 : decode cX9_init 31 = .ok (.newarray .int, 2) := by decide +kernel
theorem dX9_init_33 : decode cX9_init 33 = .ok (.putfield 21, 3) := by decide +kernel
theorem dX9_init_36 : decode cX9_init 36 = .ok (.aload_n 0, 1) := by decide +kernel
theorem dX9_init_37 : decode cX9_init 37 = .ok (.bipush 100, 2) := by decide +kernel
theorem dX9_init_39 : decode cX9_init 39 = .ok (.newarray .int, 2) := by decide +kernel
theorem dX9_init_41 : decode cX9_init 41 = .ok (.putfield 24, 3) := by decide +kernel
theorem dX9_init_44 : decode cX9_init 44 = .ok (.aload_n 0, 1) := by decide +kernel
theorem dX9_init_45 : decode cX9_init 45 = .ok (.iconst 0, 1) := by decide +kernel
theorem dX9_init_46 : decode cX9_init 46 = .ok (.putfield 27, 3) := by decide +kernel
theorem dX9_init_49 : decode cX9_init 49 = .ok (.return_, 1) := by decide +kernel
theorem dX9_follow_0 : decode cX9_follow 0 = .ok (.aload_n 0, 1) := by decide +kernel
theorem dX9_follow_1 : decode cX9_follow 1 = .ok (.iconst 1, 1) := by decide +kernel
theorem dX9_follow_2 : decode cX9_follow 2 = .ok (.aload_n 1, 1) := by decide +kernel
theorem dX9_follow_3 : decode cX9_follow 3 = .ok (.getfield 31, 3) := by decide +kernel
theorem dX9_follow_6 : decode cX9_follow 6 = .ok (.ishl, 1) := by decide +kernel
theorem dX9_follow_7 : decode cX9_follow 7 = .ok (.iconst 1, 1) := by decide +kernel
theorem dX9_follow_8 : decode cX9_follow 8 = .ok (.isub, 1) := by decide +kernel
theorem dX9_follow_9 : decode cX9_follow 9 = .ok (.putfield 27, 3) := by decide +kernel
theorem dX9_follow_12 : decode cX9_follow 12 = .ok (.aload_n 0, 1) := by decide +kernel
theorem dX9_follow_13 : decode cX9_follow 13 = .ok (.aload_n 1, 1) := by decide +kernel
theorem dX9_follow_14 : decode cX9_follow 14 = .ok (.aload_n 2, 1) := by decide +kernel
theorem dX9_follow_15 : decode cX9_follow 15 = .ok (.invokevirtual 36, 3) := by decide +kernel
theorem dX9_follow_18 : decode cX9_follow 18 = .ok (.ifCond .ne 5, 3) := by decide +kernel
theorem dX9_follow_21 : decode cX9_follow 21 = .ok (.iconst 0, 1) := by decide +kernel
theorem dX9_follow_22 : decode cX9_follow 22 = .ok (.ireturn, 1) := by decide +kernel
theorem dX9_follow_23 : decode cX9_follow 23 = .ok (.aload_n 0, 1) := by decide +kernel
theorem dX9_follow_24 : decode cX9_follow 24 = .ok (.aload_n 1, 1) := by decide +kernel
theorem dX9_follow_25 : decode cX9_follow 25 = .ok (.invokevirtual 40, 3) := by decide +kernel
theorem dX9_follow_28 : decode cX9_follow 28 = .ok (.aload_n 0, 1) := by decide +kernel
theorem dX9_follow_29 : decode cX9_follow 29 = .ok (.aload_n 1, 1) := by decide +kernel
theorem dX9_follow_30 : decode cX9_follow 30 = .ok (.invokevirtual 44, 3) := by decide +kernel
theorem dX9_follow_33 : decode cX9_follow 33 = .ok (.iconst 0, 1) := by decide +kernel
theorem dX9_follow_34 : decode cX9_follow 34 = .ok (.istore_n 3, 1) := by decide +kernel
theorem dX9_follow_35 : decode cX9_follow 35 = .ok (.iload_n 3, 1) := by decide +kernel
theorem dX9_follow_36 : decode cX9_follow 36 = .ok (.bipush 100, 2) := by decide +kernel
theorem dX9_follow_38 : decode cX9_follow 38 = .ok (.if_icmp .ge 28, 3) := by decide +kernel
theorem dX9_follow_41 : decode cX9_follow 41 = .ok (.aload_n 0, 1) := by decide +kernel
theorem dX9_follow_42 : decode cX9_follow 42 = .ok (.getfield 9, 3) := by decide +kernel
theorem dX9_follow_45 : decode cX9_follow 45 = .ok (.iload_n 3, 1) := by decide +kernel
theorem dX9_follow_46 : decode cX9_follow 46 = .ok (.aload_n 0, 1) := by decide +kernel
theorem dX9_follow_47 : decode cX9_follow 47 = .ok (.getfield 21, 3) := by decide +kernel
theorem dX9_follow_50 : decode cX9_follow 50 = .ok (.iload_n 3, 1) := by decide +kernel
theorem dX9_follow_51 : decode cX9_follow 51 = .ok (.iaload, 1) := by decide +kernel
theorem dX9_follow_52 : decode cX9_follow 52 = .ok (.aload_n 0, 1) := by decide +kernel
theorem dX9_follow_53 : decode cX9_follow 53 = .ok (.getfield 24, 3) := by decide +kernel
theorem dX9_follow_56 : decode cX9_follow 56 = .ok (.iload_n 3, 1) := by decide +kernel
theorem dX9_follow_57 : decode cX9_follow 57 = .ok (.iaload, 1) := by decide +kernel
theorem dX9_follow_58 : decode cX9_follow 58 = .ok (.iand, 1) := by decide +kernel
theorem dX9_follow_59 : decode cX9_follow 59 = .ok (.iastore, 1) := by decide +kernel
theorem dX9_follow_60 : decode cX9_follow 60 = .ok (.iinc 3 1, 3) := by decide +kernel
theorem dX9_follow_63 : decode cX9_follow 63 = .ok (.goto (-28), 3) := by decide +kernel
theorem dX9_follow_66 : decode cX9_follow 66 = .ok (.aload_n 0, 1) := by decide +kernel
theorem dX9_follow_67 : decode cX9_follow 67 = .ok (.getfield 9, 3) := by decide +kernel
theorem dX9_follow_70 : decode cX9_follow 70 = .ok (.iconst 0, 1) := by decide +kernel
theorem dX9_follow_71 : decode cX9_follow 71 = .ok (.iaload, 1) := by decide +kernel
theorem dX9_follow_72 : decode cX9_follow 72 = .ok (.ifCond .eq 7, 3) := by decide +kernel
theorem dX9_follow_75 : decode cX9_follow 75 = .ok (.iconst 1, 1) := by decide +kernel
theorem dX9_follow_76 : decode cX9_follow 76 = .ok (.goto 4, 3) := by decide +kernel
theorem dX9_follow_79 : decode cX9_follow 79 = .ok (.iconst 0, 1) := by decide +kernel
theorem dX9_follow_80 : decode cX9_follow 80 = .ok (.ireturn, 1) := by decide +kernel
theorem dX9_noteSights_0 : decode cX9_noteSights 0 = .ok (.iconst 0, 1) := by decide +kernel
theorem dX9_noteSights_1 : decode cX9_noteSights 1 = .ok (.istore_n 3, 1) := by decide +kernel
theorem dX9_noteSights_2 : decode cX9_noteSights 2 = .ok (.iload_n 3, 1) := by decide +kernel
theorem dX9_noteSights_3 : decode cX9_noteSights 3 = .ok (.bipush 100, 2) := by decide +kernel
theorem dX9_noteSights_5 : decode cX9_noteSights 5 = .ok (.if_icmp .ge 16, 3) := by decide +kernel
theorem dX9_noteSights_8 : decode cX9_noteSights 8 = .ok (.aload_n 0, 1) := by decide +kernel
theorem dX9_noteSights_9 : decode cX9_noteSights 9 = .ok (.getfield 15, 3) := by decide +kernel
theorem dX9_noteSights_12 : decode cX9_noteSights 12 = .ok (.iload_n 3, 1) := by decide +kernel
theorem dX9_noteSights_13 : decode cX9_noteSights 13 = .ok (.iconst (-1), 1) := by decide +kernel
theorem dX9_noteSights_14 : decode cX9_noteSights 14 = .ok (.iastore, 1) := by decide +kernel
theorem dX9_noteSights_15 : decode cX9_noteSights 15 = .ok (.iinc 3 1, 3) := by decide +kernel
theorem dX9_noteSights_18 : decode cX9_noteSights 18 = .ok (.goto (-16), 3) := by decide +kernel
theorem dX9_noteSights_21 : decode cX9_noteSights 21 = .ok (.iconst 0, 1) := by decide +kernel
theorem dX9_noteSights_22 : decode cX9_noteSights 22 = .ok (.istore_n 3, 1) := by decide +kernel
theorem dX9_noteSights_23 : decode cX9_noteSights 23 = .ok (.iload_n 3, 1) := by decide +kernel
theorem dX9_noteSights_24 : decode cX9_noteSights 24 = .ok (.aload_n 2, 1) := by decide +kernel
theorem dX9_noteSights_25 : decode cX9_noteSights 25 = .ok (.getfield 47, 3) := by decide +kernel
theorem dX9_noteSights_28 : decode cX9_noteSights 28 = .ok (.if_icmp .ge 80, 3) := by decide +kernel
theorem dX9_noteSights_31 : decode cX9_noteSights 31 = .ok (.aload_n 2, 1) := by decide +kernel
theorem dX9_noteSights_32 : decode cX9_noteSights 32 = .ok (.iload_n 3, 1) := by decide +kernel
theorem dX9_noteSights_33 : decode cX9_noteSights 33 = .ok (.iconst 0, 1) := by decide +kernel
theorem dX9_noteSights_34 : decode cX9_noteSights 34 = .ok (.invokevirtual 52, 3) := by decide +kernel
theorem dX9_noteSights_37 : decode cX9_noteSights 37 = .ok (.istore 4, 2) := by decide +kernel
theorem dX9_noteSights_39 : decode cX9_noteSights 39 = .ok (.aload_n 2, 1) := by decide +kernel
theorem dX9_noteSights_40 : decode cX9_noteSights 40 = .ok (.iload_n 3, 1) := by decide +kernel
theorem dX9_noteSights_41 : decode cX9_noteSights 41 = .ok (.iconst 1, 1) := by decide +kernel
theorem dX9_noteSights_42 : decode cX9_noteSights 42 = .ok (.invokevirtual 52, 3) := by decide +kernel
theorem dX9_noteSights_45 : decode cX9_noteSights 45 = .ok (.istore 5, 2) := by decide +kernel
theorem dX9_noteSights_47 : decode cX9_noteSights 47 = .ok (.aload_n 0, 1) := by decide +kernel
theorem dX9_noteSights_48 : decode cX9_noteSights 48 = .ok (.getfield 15, 3) := by decide +kernel
theorem dX9_noteSights_51 : decode cX9_noteSights 51 = .ok (.iload 5, 2) := by decide +kernel
theorem dX9_noteSights_53 : decode cX9_noteSights 53 = .ok (.iaload, 1) := by decide +kernel
theorem dX9_noteSights_54 : decode cX9_noteSights 54 = .ok (.iconst (-1), 1) := by decide +kernel
theorem dX9_noteSights_55 : decode cX9_noteSights 55 = .ok (.if_icmp .eq 19, 3) := by decide +kernel
theorem dX9_noteSights_58 : decode cX9_noteSights 58 = .ok (.aload_n 0, 1) := by decide +kernel
theorem dX9_noteSights_59 : decode cX9_noteSights 59 = .ok (.getfield 15, 3) := by decide +kernel
theorem dX9_noteSights_62 : decode cX9_noteSights 62 = .ok (.iload 5, 2) := by decide +kernel
theorem dX9_noteSights_64 : decode cX9_noteSights 64 = .ok (.iaload, 1) := by decide +kernel
theorem dX9_noteSights_65 : decode cX9_noteSights 65 = .ok (.iload 4, 2) := by decide +kernel
theorem dX9_noteSights_67 : decode cX9_noteSights 67 = .ok (.if_icmp .eq 7, 3) := by decide +kernel
theorem dX9_noteSights_70 : decode cX9_noteSights 70 = .ok (.iconst 1, 1) := by decide +kernel
theorem dX9_noteSights_71 : decode cX9_noteSights 71 = .ok (.goto 4, 3) := by decide +kernel
theorem dX9_noteSights_74 : decode cX9_noteSights 74 = .ok (.iconst 0, 1) := by decide +kernel
theorem dX9_noteSights_75 : decode cX9_noteSights 75 = .ok (.istore 6, 2) := by decide +kernel
theorem dX9_noteSights_77 : decode cX9_noteSights 77 = .ok (.iload 4, 2) := by decide +kernel
theorem dX9_noteSights_79 : decode cX9_noteSights 79 = .ok (.aload_n 1, 1) := by decide +kernel
theorem dX9_noteSights_80 : decode cX9_noteSights 80 = .ok (.getfield 31, 3) := by decide +kernel
theorem dX9_noteSights_83 : decode cX9_noteSights 83 = .ok (.if_icmp .ge 8, 3) := by decide +kernel
theorem dX9_noteSights_86 : decode cX9_noteSights 86 = .ok (.iload 6, 2) := by decide +kernel
theorem dX9_noteSights_88 : decode cX9_noteSights 88 = .ok (.ifCond .eq 5, 3) := by decide +kernel
theorem dX9_noteSights_91 : decode cX9_noteSights 91 = .ok (.iconst 0, 1) := by decide +kernel
theorem dX9_noteSights_92 : decode cX9_noteSights 92 = .ok (.ireturn, 1) := by decide +kernel
theorem dX9_noteSights_93 : decode cX9_noteSights 93 = .ok (.aload_n 0, 1) := by decide +kernel
theorem dX9_noteSights_94 : decode cX9_noteSights 94 = .ok (.getfield 15, 3) := by decide +kernel
theorem dX9_noteSights_97 : decode cX9_noteSights 97 = .ok (.iload 5, 2) := by decide +kernel
theorem dX9_noteSights_99 : decode cX9_noteSights 99 = .ok (.iload 4, 2) := by decide +kernel
theorem dX9_noteSights_101 : decode cX9_noteSights 101 = .ok (.iastore, 1) := by decide +kernel
theorem dX9_noteSights_102 : decode cX9_noteSights 102 = .ok (.iinc 3 1, 3) := by decide +kernel
theorem dX9_noteSights_105 : decode cX9_noteSights 105 = .ok (.goto (-82), 3) := by decide +kernel
theorem dX9_noteSights_108 : decode cX9_noteSights 108 = .ok (.ldc 56, 2) := by decide +kernel
theorem dX9_noteSights_110 : decode cX9_noteSights 110 = .ok (.istore_n 3, 1) := by decide +kernel
theorem dX9_noteSights_111 : decode cX9_noteSights 111 = .ok (.bipush 99, 2) := by decide +kernel
theorem dX9_noteSights_113 : decode cX9_noteSights 113 = .ok (.istore 4, 2) := by decide +kernel
theorem dX9_noteSights_115 : decode cX9_noteSights 115 = .ok (.iload 4, 2) := by decide +kernel
theorem dX9_noteSights_117 : decode cX9_noteSights 117 = .ok (.ifCond .lt 31, 3) := by decide +kernel
theorem dX9_noteSights_120 : decode cX9_noteSights 120 = .ok (.aload_n 0, 1) := by decide +kernel
theorem dX9_noteSights_121 : decode cX9_noteSights 121 = .ok (.getfield 18, 3) := by decide +kernel
theorem dX9_noteSights_124 : decode cX9_noteSights 124 = .ok (.iload 4, 2) := by decide +kernel
theorem dX9_noteSights_126 : decode cX9_noteSights 126 = .ok (.iload_n 3, 1) := by decide +kernel
theorem dX9_noteSights_127 : decode cX9_noteSights 127 = .ok (.iastore, 1) := by decide +kernel
theorem dX9_noteSights_128 : decode cX9_noteSights 128 = .ok (.aload_n 0, 1) := by decide +kernel
theorem dX9_noteSights_129 : decode cX9_noteSights 129 = .ok (.getfield 15, 3) := by decide +kernel
theorem dX9_noteSights_132 : decode cX9_noteSights 132 = .ok (.iload 4, 2) := by decide +kernel
theorem dX9_noteSights_134 : decode cX9_noteSights 134 = .ok (.iaload, 1) := by decide +kernel
theorem dX9_noteSights_135 : decode cX9_noteSights 135 = .ok (.iconst (-1), 1) := by decide +kernel
theorem dX9_noteSights_136 : decode cX9_noteSights 136 = .ok (.if_icmp .eq 6, 3) := by decide +kernel
theorem dX9_noteSights_139 : decode cX9_noteSights 139 = .ok (.iload 4, 2) := by decide +kernel
theorem dX9_noteSights_141 : decode cX9_noteSights 141 = .ok (.istore_n 3, 1) := by decide +kernel
theorem dX9_noteSights_142 : decode cX9_noteSights 142 = .ok (.iinc 4 (-1), 3) := by decide +kernel
theorem dX9_noteSights_145 : decode cX9_noteSights 145 = .ok (.goto (-30), 3) := by decide +kernel
theorem dX9_noteSights_148 : decode cX9_noteSights 148 = .ok (.iconst 1, 1) := by decide +kernel
theorem dX9_noteSights_149 : decode cX9_noteSights 149 = .ok (.ireturn, 1) := by decide +kernel
theorem dX9_allowed_0 : decode cX9_allowed 0 = .ok (.aload_n 0, 1) := by decide +kernel
theorem dX9_allowed_1 : decode cX9_allowed 1 = .ok (.getfield 15, 3) := by decide +kernel
theorem dX9_allowed_4 : decode cX9_allowed 4 = .ok (.iload_n 1, 1) := by decide +kernel
theorem dX9_allowed_5 : decode cX9_allowed 5 = .ok (.iaload, 1) := by decide +kernel
theorem dX9_allowed_6 : decode cX9_allowed 6 = .ok (.iconst (-1), 1) := by decide +kernel
theorem dX9_allowed_7 : decode cX9_allowed 7 = .ok (.if_icmp .ne 10, 3) := by decide +kernel
theorem dX9_allowed_10 : decode cX9_allowed 10 = .ok (.aload_n 0, 1) := by decide +kernel
theorem dX9_allowed_11 : decode cX9_allowed 11 = .ok (.getfield 27, 3) := by decide +kernel
theorem dX9_allowed_14 : decode cX9_allowed 14 = .ok (.goto 11, 3) := by decide +kernel
theorem dX9_allowed_17 : decode cX9_allowed 17 = .ok (.iconst 1, 1) := by decide +kernel
theorem dX9_allowed_18 : decode cX9_allowed 18 = .ok (.aload_n 0, 1) := by decide +kernel
theorem dX9_allowed_19 : decode cX9_allowed 19 = .ok (.getfield 15, 3) := by decide +kernel
theorem dX9_allowed_22 : decode cX9_allowed 22 = .ok (.iload_n 1, 1) := by decide +kernel
theorem dX9_allowed_23 : decode cX9_allowed 23 = .ok (.iaload, 1) := by decide +kernel
theorem dX9_allowed_24 : decode cX9_allowed 24 = .ok (.ishl, 1) := by decide +kernel
theorem dX9_allowed_25 : decode cX9_allowed 25 = .ok (.ireturn, 1) := by decide +kernel
theorem dX9_rides_0 : decode cX9_rides 0 = .ok (.aload_n 1, 1) := by decide +kernel
theorem dX9_rides_1 : decode cX9_rides 1 = .ok (.getfield 57, 3) := by decide +kernel
theorem dX9_rides_4 : decode cX9_rides 4 = .ok (.iload_n 2, 1) := by decide +kernel
theorem dX9_rides_5 : decode cX9_rides 5 = .ok (.iaload, 1) := by decide +kernel
theorem dX9_rides_6 : decode cX9_rides 6 = .ok (.iload_n 3, 1) := by decide +kernel
theorem dX9_rides_7 : decode cX9_rides 7 = .ok (.bipush 12, 2) := by decide +kernel
theorem dX9_rides_9 : decode cX9_rides 9 = .ok (.irem, 1) := by decide +kernel
theorem dX9_rides_10 : decode cX9_rides 10 = .ok (.if_icmp .ne 24, 3) := by decide +kernel
theorem dX9_rides_13 : decode cX9_rides 13 = .ok (.iload_n 3, 1) := by decide +kernel
theorem dX9_rides_14 : decode cX9_rides 14 = .ok (.aload_n 1, 1) := by decide +kernel
theorem dX9_rides_15 : decode cX9_rides 15 = .ok (.getfield 60, 3) := by decide +kernel
theorem dX9_rides_18 : decode cX9_rides 18 = .ok (.iload_n 2, 1) := by decide +kernel
theorem dX9_rides_19 : decode cX9_rides 19 = .ok (.iaload, 1) := by decide +kernel
theorem dX9_rides_20 : decode cX9_rides 20 = .ok (.iadd, 1) := by decide +kernel
theorem dX9_rides_21 : decode cX9_rides 21 = .ok (.aload_n 0, 1) := by decide +kernel
theorem dX9_rides_22 : decode cX9_rides 22 = .ok (.getfield 18, 3) := by decide +kernel
theorem dX9_rides_25 : decode cX9_rides 25 = .ok (.iload_n 3, 1) := by decide +kernel
theorem dX9_rides_26 : decode cX9_rides 26 = .ok (.iaload, 1) := by decide +kernel
theorem dX9_rides_27 : decode cX9_rides 27 = .ok (.if_icmp .gt 7, 3) := by decide +kernel
theorem dX9_rides_30 : decode cX9_rides 30 = .ok (.iconst 1, 1) := by decide +kernel
theorem dX9_rides_31 : decode cX9_rides 31 = .ok (.goto 4, 3) := by decide +kernel
theorem dX9_rides_34 : decode cX9_rides 34 = .ok (.iconst 0, 1) := by decide +kernel
theorem dX9_rides_35 : decode cX9_rides 35 = .ok (.ireturn, 1) := by decide +kernel
theorem dX9_lookForward_0 : decode cX9_lookForward 0 = .ok (.iconst 1, 1) := by decide +kernel
theorem dX9_lookForward_1 : decode cX9_lookForward 1 = .ok (.istore_n 2, 1) := by decide +kernel
theorem dX9_lookForward_2 : decode cX9_lookForward 2 = .ok (.iload_n 2, 1) := by decide +kernel
theorem dX9_lookForward_3 : decode cX9_lookForward 3 = .ok (.bipush 100, 2) := by decide +kernel
theorem dX9_lookForward_5 : decode cX9_lookForward 5 = .ok (.if_icmp .ge 16, 3) := by decide +kernel
theorem dX9_lookForward_8 : decode cX9_lookForward 8 = .ok (.aload_n 0, 1) := by decide +kernel
theorem dX9_lookForward_9 : decode cX9_lookForward 9 = .ok (.getfield 21, 3) := by decide +kernel
theorem dX9_lookForward_12 : decode cX9_lookForward 12 = .ok (.iload_n 2, 1) := by decide +kernel
theorem dX9_lookForward_13 : decode cX9_lookForward 13 = .ok (.iconst 0, 1) := by decide +kernel
theorem dX9_lookForward_14 : decode cX9_lookForward 14 = .ok (.iastore, 1) := by decide +kernel
theorem dX9_lookForward_15 : decode cX9_lookForward 15 = .ok (.iinc 2 1, 3) := by decide +kernel
theorem dX9_lookForward_18 : decode cX9_lookForward 18 = .ok (.goto (-16), 3) := by decide +kernel
theorem dX9_lookForward_21 : decode cX9_lookForward 21 = .ok (.aload_n 0, 1) := by decide +kernel
theorem dX9_lookForward_22 : decode cX9_lookForward 22 = .ok (.getfield 21, 3) := by decide +kernel
theorem dX9_lookForward_25 : decode cX9_lookForward 25 = .ok (.iconst 0, 1) := by decide +kernel
theorem dX9_lookForward_26 : decode cX9_lookForward 26 = .ok (.aload_n 0, 1) := by decide +kernel
theorem dX9_lookForward_27 : decode cX9_lookForward 27 = .ok (.getfield 27, 3) := by decide +kernel
theorem dX9_lookForward_30 : decode cX9_lookForward 30 = .ok (.iastore, 1) := by decide +kernel
theorem dX9_lookForward_31 : decode cX9_lookForward 31 = .ok (.iconst 0, 1) := by decide +kernel
theorem dX9_lookForward_32 : decode cX9_lookForward 32 = .ok (.istore_n 2, 1) := by decide +kernel
theorem dX9_lookForward_33 : decode cX9_lookForward 33 = .ok (.iload_n 2, 1) := by decide +kernel
theorem dX9_lookForward_34 : decode cX9_lookForward 34 = .ok (.bipush 100, 2) := by decide +kernel
theorem dX9_lookForward_36 : decode cX9_lookForward 36 = .ok (.if_icmp .ge 123, 3) := by decide +kernel
theorem dX9_lookForward_39 : decode cX9_lookForward 39 = .ok (.iload_n 2, 1) := by decide +kernel
theorem dX9_lookForward_40 : decode cX9_lookForward 40 = .ok (.ifCond .le 20, 3) := by decide +kernel
theorem dX9_lookForward_43 : decode cX9_lookForward 43 = .ok (.aload_n 0, 1) := by decide +kernel
theorem dX9_lookForward_44 : decode cX9_lookForward 44 = .ok (.getfield 21, 3) := by decide +kernel
theorem dX9_lookForward_47 : decode cX9_lookForward 47 = .ok (.iload_n 2, 1) := by decide +kernel
theorem dX9_lookForward_48 : decode cX9_lookForward 48 = .ok (.dup2, 1) := by decide +kernel
theorem dX9_lookForward_49 : decode cX9_lookForward 49 = .ok (.iaload, 1) := by decide +kernel
theorem dX9_lookForward_50 : decode cX9_lookForward 50 = .ok (.aload_n 0, 1) := by decide +kernel
theorem dX9_lookForward_51 : decode cX9_lookForward 51 = .ok (.getfield 21, 3) := by decide +kernel
theorem dX9_lookForward_54 : decode cX9_lookForward 54 = .ok (.iload_n 2, 1) := by decide +kernel
theorem dX9_lookForward_55 : decode cX9_lookForward 55 = .ok (.iconst 1, 1) := by decide +kernel
theorem dX9_lookForward_56 : decode cX9_lookForward 56 = .ok (.isub, 1) := by decide +kernel
theorem dX9_lookForward_57 : decode cX9_lookForward 57 = .ok (.iaload, 1) := by decide +kernel
theorem dX9_lookForward_58 : decode cX9_lookForward 58 = .ok (.ior, 1) := by decide +kernel
theorem dX9_lookForward_59 : decode cX9_lookForward 59 = .ok (.iastore, 1) := by decide +kernel
theorem dX9_lookForward_60 : decode cX9_lookForward 60 = .ok (.aload_n 0, 1) := by decide +kernel
theorem dX9_lookForward_61 : decode cX9_lookForward 61 = .ok (.getfield 21, 3) := by decide +kernel
theorem dX9_lookForward_64 : decode cX9_lookForward 64 = .ok (.iload_n 2, 1) := by decide +kernel
theorem dX9_lookForward_65 : decode cX9_lookForward 65 = .ok (.dup2, 1) := by decide +kernel
theorem dX9_lookForward_66 : decode cX9_lookForward 66 = .ok (.iaload, 1) := by decide +kernel
theorem dX9_lookForward_67 : decode cX9_lookForward 67 = .ok (.aload_n 0, 1) := by decide +kernel
theorem dX9_lookForward_68 : decode cX9_lookForward 68 = .ok (.iload_n 2, 1) := by decide +kernel
theorem dX9_lookForward_69 : decode cX9_lookForward 69 = .ok (.invokevirtual 63, 3) := by decide +kernel
theorem dX9_lookForward_72 : decode cX9_lookForward 72 = .ok (.iand, 1) := by decide +kernel
theorem dX9_lookForward_73 : decode cX9_lookForward 73 = .ok (.iastore, 1) := by decide +kernel
theorem dX9_lookForward_74 : decode cX9_lookForward 74 = .ok (.iconst 0, 1) := by decide +kernel
theorem dX9_lookForward_75 : decode cX9_lookForward 75 = .ok (.istore_n 3, 1) := by decide +kernel
theorem dX9_lookForward_76 : decode cX9_lookForward 76 = .ok (.iload_n 3, 1) := by decide +kernel
theorem dX9_lookForward_77 : decode cX9_lookForward 77 = .ok (.aload_n 1, 1) := by decide +kernel
theorem dX9_lookForward_78 : decode cX9_lookForward 78 = .ok (.getfield 67, 3) := by decide +kernel
theorem dX9_lookForward_81 : decode cX9_lookForward 81 = .ok (.if_icmp .ge 72, 3) := by decide +kernel
theorem dX9_lookForward_84 : decode cX9_lookForward 84 = .ok (.aload_n 0, 1) := by decide +kernel
theorem dX9_lookForward_85 : decode cX9_lookForward 85 = .ok (.getfield 21, 3) := by decide +kernel
theorem dX9_lookForward_88 : decode cX9_lookForward 88 = .ok (.iload_n 2, 1) := by decide +kernel
theorem dX9_lookForward_89 : decode cX9_lookForward 89 = .ok (.iaload, 1) := by decide +kernel
theorem dX9_lookForward_90 : decode cX9_lookForward 90 = .ok (.aload_n 1, 1) := by decide +kernel
theorem dX9_lookForward_91 : decode cX9_lookForward 91 = .ok (.getfield 70, 3) := by decide +kernel
theorem dX9_lookForward_94 : decode cX9_lookForward 94 = .ok (.iload_n 3, 1) := by decide +kernel
theorem dX9_lookForward_95 : decode cX9_lookForward 95 = .ok (.iaload, 1) := by decide +kernel
theorem dX9_lookForward_96 : decode cX9_lookForward 96 = .ok (.invokestatic 73, 3) := by decide +kernel
theorem dX9_lookForward_99 : decode cX9_lookForward 99 = .ok (.ifCond .eq 48, 3) := by decide +kernel
theorem dX9_lookForward_102 : decode cX9_lookForward 102 = .ok (.aload_n 0, 1) := by decide +kernel
theorem dX9_lookForward_103 : decode cX9_lookForward 103 = .ok (.aload_n 1, 1) := by decide +kernel
theorem dX9_lookForward_104 : decode cX9_lookForward 104 = .ok (.iload_n 3, 1) := by decide +kernel
theorem dX9_lookForward_105 : decode cX9_lookForward 105 = .ok (.iload_n 2, 1) := by decide +kernel
theorem dX9_lookForward_106 : decode cX9_lookForward 106 = .ok (.invokevirtual 77, 3) := by decide +kernel
theorem dX9_lookForward_109 : decode cX9_lookForward 109 = .ok (.ifCond .eq 38, 3) := by decide +kernel
theorem dX9_lookForward_112 : decode cX9_lookForward 112 = .ok (.iload_n 2, 1) := by decide +kernel
theorem dX9_lookForward_113 : decode cX9_lookForward 113 = .ok (.aload_n 1, 1) := by decide +kernel
theorem dX9_lookForward_114 : decode cX9_lookForward 114 = .ok (.getfield 60, 3) := by decide +kernel
theorem dX9_lookForward_117 : decode cX9_lookForward 117 = .ok (.iload_n 3, 1) := by decide +kernel
theorem dX9_lookForward_118 : decode cX9_lookForward 118 = .ok (.iaload, 1) := by decide +kernel
theorem dX9_lookForward_119 : decode cX9_lookForward 119 = .ok (.iadd, 1) := by decide +kernel
theorem dX9_lookForward_120 : decode cX9_lookForward 120 = .ok (.istore 4, 2) := by decide +kernel
theorem dX9_lookForward_122 : decode cX9_lookForward 122 = .ok (.iload 4, 2) := by decide +kernel
theorem dX9_lookForward_124 : decode cX9_lookForward 124 = .ok (.bipush 100, 2) := by decide +kernel
theorem dX9_lookForward_126 : decode cX9_lookForward 126 = .ok (.if_icmp .ge 21, 3) := by decide +kernel
theorem dX9_lookForward_129 : decode cX9_lookForward 129 = .ok (.aload_n 0, 1) := by decide +kernel
theorem dX9_lookForward_130 : decode cX9_lookForward 130 = .ok (.getfield 21, 3) := by decide +kernel
theorem dX9_lookForward_133 : decode cX9_lookForward 133 = .ok (.iload 4, 2) := by decide +kernel
theorem dX9_lookForward_135 : decode cX9_lookForward 135 = .ok (.dup2, 1) := by decide +kernel
theorem dX9_lookForward_136 : decode cX9_lookForward 136 = .ok (.iaload, 1) := by decide +kernel
theorem dX9_lookForward_137 : decode cX9_lookForward 137 = .ok (.iconst 1, 1) := by decide +kernel
theorem dX9_lookForward_138 : decode cX9_lookForward 138 = .ok (.aload_n 1, 1) := by decide +kernel
theorem dX9_lookForward_139 : decode cX9_lookForward 139 = .ok (.getfield 81, 3) := by decide +kernel
theorem dX9_lookForward_142 : decode cX9_lookForward 142 = .ok (.iload_n 3, 1) := by decide +kernel
theorem dX9_lookForward_143 : decode cX9_lookForward 143 = .ok (.iaload, 1) := by decide +kernel
theorem dX9_lookForward_144 : decode cX9_lookForward 144 = .ok (.ishl, 1) := by decide +kernel
theorem dX9_lookForward_145 : decode cX9_lookForward 145 = .ok (.ior, 1) := by decide +kernel
theorem dX9_lookForward_146 : decode cX9_lookForward 146 = .ok (.iastore, 1) := by decide +kernel
theorem dX9_lookForward_147 : decode cX9_lookForward 147 = .ok (.iinc 3 1, 3) := by decide +kernel
theorem dX9_lookForward_150 : decode cX9_lookForward 150 = .ok (.goto (-74), 3) := by decide +kernel
theorem dX9_lookForward_153 : decode cX9_lookForward 153 = .ok (.iinc 2 1, 3) := by decide +kernel
theorem dX9_lookForward_156 : decode cX9_lookForward 156 = .ok (.goto (-123), 3) := by decide +kernel
theorem dX9_lookForward_159 : decode cX9_lookForward 159 = .ok (.return_, 1) := by decide +kernel
theorem dX9_lookBack_0 : decode cX9_lookBack 0 = .ok (.bipush 99, 2) := by decide +kernel
theorem dX9_lookBack_2 : decode cX9_lookBack 2 = .ok (.istore_n 2, 1) := by decide +kernel
theorem dX9_lookBack_3 : decode cX9_lookBack 3 = .ok (.iload_n 2, 1) := by decide +kernel
theorem dX9_lookBack_4 : decode cX9_lookBack 4 = .ok (.ifCond .lt 125, 3) := by decide +kernel
theorem dX9_lookBack_7 : decode cX9_lookBack 7 = .ok (.iload_n 2, 1) := by decide +kernel
theorem dX9_lookBack_8 : decode cX9_lookBack 8 = .ok (.iconst 1, 1) := by decide +kernel
theorem dX9_lookBack_9 : decode cX9_lookBack 9 = .ok (.iadd, 1) := by decide +kernel
theorem dX9_lookBack_10 : decode cX9_lookBack 10 = .ok (.bipush 100, 2) := by decide +kernel
theorem dX9_lookBack_12 : decode cX9_lookBack 12 = .ok (.if_icmp .ge 14, 3) := by decide +kernel
theorem dX9_lookBack_15 : decode cX9_lookBack 15 = .ok (.aload_n 0, 1) := by decide +kernel
theorem dX9_lookBack_16 : decode cX9_lookBack 16 = .ok (.getfield 24, 3) := by decide +kernel
theorem dX9_lookBack_19 : decode cX9_lookBack 19 = .ok (.iload_n 2, 1) := by decide +kernel
theorem dX9_lookBack_20 : decode cX9_lookBack 20 = .ok (.iconst 1, 1) := by decide +kernel
theorem dX9_lookBack_21 : decode cX9_lookBack 21 = .ok (.iadd, 1) := by decide +kernel
theorem dX9_lookBack_22 : decode cX9_lookBack 22 = .ok (.iaload, 1) := by decide +kernel
theorem dX9_lookBack_23 : decode cX9_lookBack 23 = .ok (.goto 7, 3) := by decide +kernel
theorem dX9_lookBack_26 : decode cX9_lookBack 26 = .ok (.aload_n 0, 1) := by decide +kernel
theorem dX9_lookBack_27 : decode cX9_lookBack 27 = .ok (.getfield 27, 3) := by decide +kernel
theorem dX9_lookBack_30 : decode cX9_lookBack 30 = .ok (.istore_n 3, 1) := by decide +kernel
theorem dX9_lookBack_31 : decode cX9_lookBack 31 = .ok (.iconst 0, 1) := by decide +kernel
theorem dX9_lookBack_32 : decode cX9_lookBack 32 = .ok (.istore 4, 2) := by decide +kernel
theorem dX9_lookBack_34 : decode cX9_lookBack 34 = .ok (.iload 4, 2) := by decide +kernel
theorem dX9_lookBack_36 : decode cX9_lookBack 36 = .ok (.aload_n 1, 1) := by decide +kernel
theorem dX9_lookBack_37 : decode cX9_lookBack 37 = .ok (.getfield 67, 3) := by decide +kernel
theorem dX9_lookBack_40 : decode cX9_lookBack 40 = .ok (.if_icmp .ge 70, 3) := by decide +kernel
theorem dX9_lookBack_43 : decode cX9_lookBack 43 = .ok (.aload_n 0, 1) := by decide +kernel
theorem dX9_lookBack_44 : decode cX9_lookBack 44 = .ok (.aload_n 1, 1) := by decide +kernel
theorem dX9_lookBack_45 : decode cX9_lookBack 45 = .ok (.iload 4, 2) := by decide +kernel
theorem dX9_lookBack_47 : decode cX9_lookBack 47 = .ok (.iload_n 2, 1) := by decide +kernel
theorem dX9_lookBack_48 : decode cX9_lookBack 48 = .ok (.invokevirtual 77, 3) := by decide +kernel
theorem dX9_lookBack_51 : decode cX9_lookBack 51 = .ok (.ifCond .eq 53, 3) := by decide +kernel
theorem dX9_lookBack_54 : decode cX9_lookBack 54 = .ok (.iload_n 2, 1) := by decide +kernel
theorem dX9_lookBack_55 : decode cX9_lookBack 55 = .ok (.aload_n 1, 1) := by decide +kernel
theorem dX9_lookBack_56 : decode cX9_lookBack 56 = .ok (.getfield 60, 3) := by decide +kernel
theorem dX9_lookBack_59 : decode cX9_lookBack 59 = .ok (.iload 4, 2) := by decide +kernel
theorem dX9_lookBack_61 : decode cX9_lookBack 61 = .ok (.iaload, 1) := by decide +kernel
theorem dX9_lookBack_62 : decode cX9_lookBack 62 = .ok (.iadd, 1) := by decide +kernel
theorem dX9_lookBack_63 : decode cX9_lookBack 63 = .ok (.istore 5, 2) := by decide +kernel
theorem dX9_lookBack_65 : decode cX9_lookBack 65 = .ok (.iload 5, 2) := by decide +kernel
theorem dX9_lookBack_67 : decode cX9_lookBack 67 = .ok (.bipush 100, 2) := by decide +kernel
theorem dX9_lookBack_69 : decode cX9_lookBack 69 = .ok (.if_icmp .ge 23, 3) := by decide +kernel
theorem dX9_lookBack_72 : decode cX9_lookBack 72 = .ok (.aload_n 0, 1) := by decide +kernel
theorem dX9_lookBack_73 : decode cX9_lookBack 73 = .ok (.getfield 24, 3) := by decide +kernel
theorem dX9_lookBack_76 : decode cX9_lookBack 76 = .ok (.iload 5, 2) := by decide +kernel
theorem dX9_lookBack_78 : decode cX9_lookBack 78 = .ok (.iaload, 1) := by decide +kernel
theorem dX9_lookBack_79 : decode cX9_lookBack 79 = .ok (.aload_n 1, 1) := by decide +kernel
theorem dX9_lookBack_80 : decode cX9_lookBack 80 = .ok (.getfield 81, 3) := by decide +kernel
theorem dX9_lookBack_83 : decode cX9_lookBack 83 = .ok (.iload 4, 2) := by decide +kernel
theorem dX9_lookBack_85 : decode cX9_lookBack 85 = .ok (.iaload, 1) := by decide +kernel
theorem dX9_lookBack_86 : decode cX9_lookBack 86 = .ok (.invokestatic 73, 3) := by decide +kernel
theorem dX9_lookBack_89 : decode cX9_lookBack 89 = .ok (.ifCond .eq 15, 3) := by decide +kernel
theorem dX9_lookBack_92 : decode cX9_lookBack 92 = .ok (.iload_n 3, 1) := by decide +kernel
theorem dX9_lookBack_93 : decode cX9_lookBack 93 = .ok (.iconst 1, 1) := by decide +kernel
theorem dX9_lookBack_94 : decode cX9_lookBack 94 = .ok (.aload_n 1, 1) := by decide +kernel
theorem dX9_lookBack_95 : decode cX9_lookBack 95 = .ok (.getfield 70, 3) := by decide +kernel
theorem dX9_lookBack_98 : decode cX9_lookBack 98 = .ok (.iload 4, 2) := by decide +kernel
theorem dX9_lookBack_100 : decode cX9_lookBack 100 = .ok (.iaload, 1) := by decide +kernel
theorem dX9_lookBack_101 : decode cX9_lookBack 101 = .ok (.ishl, 1) := by decide +kernel
theorem dX9_lookBack_102 : decode cX9_lookBack 102 = .ok (.ior, 1) := by decide +kernel
theorem dX9_lookBack_103 : decode cX9_lookBack 103 = .ok (.istore_n 3, 1) := by decide +kernel
theorem dX9_lookBack_104 : decode cX9_lookBack 104 = .ok (.iinc 4 1, 3) := by decide +kernel
theorem dX9_lookBack_107 : decode cX9_lookBack 107 = .ok (.goto (-73), 3) := by decide +kernel
theorem dX9_lookBack_110 : decode cX9_lookBack 110 = .ok (.aload_n 0, 1) := by decide +kernel
theorem dX9_lookBack_111 : decode cX9_lookBack 111 = .ok (.getfield 24, 3) := by decide +kernel
theorem dX9_lookBack_114 : decode cX9_lookBack 114 = .ok (.iload_n 2, 1) := by decide +kernel
theorem dX9_lookBack_115 : decode cX9_lookBack 115 = .ok (.iload_n 3, 1) := by decide +kernel
theorem dX9_lookBack_116 : decode cX9_lookBack 116 = .ok (.aload_n 0, 1) := by decide +kernel
theorem dX9_lookBack_117 : decode cX9_lookBack 117 = .ok (.iload_n 2, 1) := by decide +kernel
theorem dX9_lookBack_118 : decode cX9_lookBack 118 = .ok (.invokevirtual 63, 3) := by decide +kernel
theorem dX9_lookBack_121 : decode cX9_lookBack 121 = .ok (.iand, 1) := by decide +kernel
theorem dX9_lookBack_122 : decode cX9_lookBack 122 = .ok (.iastore, 1) := by decide +kernel
theorem dX9_lookBack_123 : decode cX9_lookBack 123 = .ok (.iinc 2 (-1), 3) := by decide +kernel
theorem dX9_lookBack_126 : decode cX9_lookBack 126 = .ok (.goto (-123), 3) := by decide +kernel
theorem dX9_lookBack_129 : decode cX9_lookBack 129 = .ok (.return_, 1) := by decide +kernel
theorem dX9_freeHours_0 : decode cX9_freeHours 0 = .ok (.iconst 0, 1) := by decide +kernel
theorem dX9_freeHours_1 : decode cX9_freeHours 1 = .ok (.istore_n 1, 1) := by decide +kernel
theorem dX9_freeHours_2 : decode cX9_freeHours 2 = .ok (.iconst 0, 1) := by decide +kernel
theorem dX9_freeHours_3 : decode cX9_freeHours 3 = .ok (.istore_n 2, 1) := by decide +kernel
theorem dX9_freeHours_4 : decode cX9_freeHours 4 = .ok (.iload_n 2, 1) := by decide +kernel
theorem dX9_freeHours_5 : decode cX9_freeHours 5 = .ok (.bipush 100, 2) := by decide +kernel
theorem dX9_freeHours_7 : decode cX9_freeHours 7 = .ok (.if_icmp .ge 25, 3) := by decide +kernel
theorem dX9_freeHours_10 : decode cX9_freeHours 10 = .ok (.aload_n 0, 1) := by decide +kernel
theorem dX9_freeHours_11 : decode cX9_freeHours 11 = .ok (.getfield 9, 3) := by decide +kernel
theorem dX9_freeHours_14 : decode cX9_freeHours 14 = .ok (.iload_n 2, 1) := by decide +kernel
theorem dX9_freeHours_15 : decode cX9_freeHours 15 = .ok (.iaload, 1) := by decide +kernel
theorem dX9_freeHours_16 : decode cX9_freeHours 16 = .ok (.invokestatic 84, 3) := by decide +kernel
theorem dX9_freeHours_19 : decode cX9_freeHours 19 = .ok (.iconst 1, 1) := by decide +kernel
theorem dX9_freeHours_20 : decode cX9_freeHours 20 = .ok (.if_icmp .eq 6, 3) := by decide +kernel
theorem dX9_freeHours_23 : decode cX9_freeHours 23 = .ok (.iinc 1 1, 3) := by decide +kernel
theorem dX9_freeHours_26 : decode cX9_freeHours 26 = .ok (.iinc 2 1, 3) := by decide +kernel
theorem dX9_freeHours_29 : decode cX9_freeHours 29 = .ok (.goto (-25), 3) := by decide +kernel
theorem dX9_freeHours_32 : decode cX9_freeHours 32 = .ok (.iload_n 1, 1) := by decide +kernel
theorem dX9_freeHours_33 : decode cX9_freeHours 33 = .ok (.ireturn, 1) := by decide +kernel
theorem dX9_certainHours_0 : decode cX9_certainHours 0 = .ok (.iconst 0, 1) := by decide +kernel
theorem dX9_certainHours_1 : decode cX9_certainHours 1 = .ok (.istore_n 2, 1) := by decide +kernel
theorem dX9_certainHours_2 : decode cX9_certainHours 2 = .ok (.iconst (-1), 1) := by decide +kernel
theorem dX9_certainHours_3 : decode cX9_certainHours 3 = .ok (.istore_n 3, 1) := by decide +kernel
theorem dX9_certainHours_4 : decode cX9_certainHours 4 = .ok (.iconst 0, 1) := by decide +kernel
theorem dX9_certainHours_5 : decode cX9_certainHours 5 = .ok (.istore 4, 2) := by decide +kernel
theorem dX9_certainHours_7 : decode cX9_certainHours 7 = .ok (.iconst 0, 1) := by decide +kernel
theorem dX9_certainHours_8 : decode cX9_certainHours 8 = .ok (.istore 5, 2) := by decide +kernel
theorem dX9_certainHours_10 : decode cX9_certainHours 10 = .ok (.iload 5, 2) := by decide +kernel
theorem dX9_certainHours_12 : decode cX9_certainHours 12 = .ok (.bipush 100, 2) := by decide +kernel
theorem dX9_certainHours_14 : decode cX9_certainHours 14 = .ok (.if_icmp .ge 79, 3) := by decide +kernel
theorem dX9_certainHours_17 : decode cX9_certainHours 17 = .ok (.aload_n 0, 1) := by decide +kernel
theorem dX9_certainHours_18 : decode cX9_certainHours 18 = .ok (.getfield 9, 3) := by decide +kernel
theorem dX9_certainHours_21 : decode cX9_certainHours 21 = .ok (.iload 5, 2) := by decide +kernel
theorem dX9_certainHours_23 : decode cX9_certainHours 23 = .ok (.iaload, 1) := by decide +kernel
theorem dX9_certainHours_24 : decode cX9_certainHours 24 = .ok (.invokestatic 84, 3) := by decide +kernel
theorem dX9_certainHours_27 : decode cX9_certainHours 27 = .ok (.iconst 1, 1) := by decide +kernel
theorem dX9_certainHours_28 : decode cX9_certainHours 28 = .ok (.if_icmp .eq 9, 3) := by decide +kernel
theorem dX9_certainHours_31 : decode cX9_certainHours 31 = .ok (.iconst 0, 1) := by decide +kernel
theorem dX9_certainHours_32 : decode cX9_certainHours 32 = .ok (.istore 4, 2) := by decide +kernel
theorem dX9_certainHours_34 : decode cX9_certainHours 34 = .ok (.goto 36, 3) := by decide +kernel
theorem dX9_certainHours_37 : decode cX9_certainHours 37 = .ok (.iload 5, 2) := by decide +kernel
theorem dX9_certainHours_39 : decode cX9_certainHours 39 = .ok (.ifCond .le 28, 3) := by decide +kernel
theorem dX9_certainHours_42 : decode cX9_certainHours 42 = .ok (.aload_n 0, 1) := by decide +kernel
theorem dX9_certainHours_43 : decode cX9_certainHours 43 = .ok (.getfield 9, 3) := by decide +kernel
theorem dX9_certainHours_46 : decode cX9_certainHours 46 = .ok (.iload 5, 2) := by decide +kernel
theorem dX9_certainHours_48 : decode cX9_certainHours 48 = .ok (.iaload, 1) := by decide +kernel
theorem dX9_certainHours_49 : decode cX9_certainHours 49 = .ok (.aload_n 0, 1) := by decide +kernel
theorem dX9_certainHours_50 : decode cX9_certainHours 50 = .ok (.getfield 9, 3) := by decide +kernel
theorem dX9_certainHours_53 : decode cX9_certainHours 53 = .ok (.iload 5, 2) := by decide +kernel
theorem dX9_certainHours_55 : decode cX9_certainHours 55 = .ok (.iconst 1, 1) := by decide +kernel
theorem dX9_certainHours_56 : decode cX9_certainHours 56 = .ok (.isub, 1) := by decide +kernel
theorem dX9_certainHours_57 : decode cX9_certainHours 57 = .ok (.iaload, 1) := by decide +kernel
theorem dX9_certainHours_58 : decode cX9_certainHours 58 = .ok (.if_icmp .ne 9, 3) := by decide +kernel
theorem dX9_certainHours_61 : decode cX9_certainHours 61 = .ok (.iinc 4 1, 3) := by decide +kernel
theorem dX9_certainHours_64 : decode cX9_certainHours 64 = .ok (.goto 6, 3) := by decide +kernel
theorem dX9_certainHours_67 : decode cX9_certainHours 67 = .ok (.iconst 1, 1) := by decide +kernel
theorem dX9_certainHours_68 : decode cX9_certainHours 68 = .ok (.istore 4, 2) := by decide +kernel
theorem dX9_certainHours_70 : decode cX9_certainHours 70 = .ok (.iload 4, 2) := by decide +kernel
theorem dX9_certainHours_72 : decode cX9_certainHours 72 = .ok (.iload_n 2, 1) := by decide +kernel
theorem dX9_certainHours_73 : decode cX9_certainHours 73 = .ok (.if_icmp .le 14, 3) := by decide +kernel
theorem dX9_certainHours_76 : decode cX9_certainHours 76 = .ok (.iload 4, 2) := by decide +kernel
theorem dX9_certainHours_78 : decode cX9_certainHours 78 = .ok (.istore_n 2, 1) := by decide +kernel
theorem dX9_certainHours_79 : decode cX9_certainHours 79 = .ok (.iload 5, 2) := by decide +kernel
theorem dX9_certainHours_81 : decode cX9_certainHours 81 = .ok (.iload 4, 2) := by decide +kernel
theorem dX9_certainHours_83 : decode cX9_certainHours 83 = .ok (.isub, 1) := by decide +kernel
theorem dX9_certainHours_84 : decode cX9_certainHours 84 = .ok (.iconst 1, 1) := by decide +kernel
theorem dX9_certainHours_85 : decode cX9_certainHours 85 = .ok (.iadd, 1) := by decide +kernel
theorem dX9_certainHours_86 : decode cX9_certainHours 86 = .ok (.istore_n 3, 1) := by decide +kernel
theorem dX9_certainHours_87 : decode cX9_certainHours 87 = .ok (.iinc 5 1, 3) := by decide +kernel
theorem dX9_certainHours_90 : decode cX9_certainHours 90 = .ok (.goto (-80), 3) := by decide +kernel
theorem dX9_certainHours_93 : decode cX9_certainHours 93 = .ok (.iload_n 1, 1) := by decide +kernel
theorem dX9_certainHours_94 : decode cX9_certainHours 94 = .ok (.ifCond .eq 7, 3) := by decide +kernel
theorem dX9_certainHours_97 : decode cX9_certainHours 97 = .ok (.iload_n 3, 1) := by decide +kernel
theorem dX9_certainHours_98 : decode cX9_certainHours 98 = .ok (.goto 4, 3) := by decide +kernel
theorem dX9_certainHours_101 : decode cX9_certainHours 101 = .ok (.iload_n 2, 1) := by decide +kernel
theorem dX9_certainHours_102 : decode cX9_certainHours 102 = .ok (.ireturn, 1) := by decide +kernel
theorem dX10_init_0 : decode cX10_init 0 = .ok (.aload_n 0, 1) := by decide +kernel
theorem dX10_init_1 : decode cX10_init 1 = .ok (.invokespecial 3, 3) := by decide +kernel
theorem dX10_init_4 : decode cX10_init 4 = .ok (.aload_n 0, 1) := by decide +kernel
theorem dX10_init_5 : decode cX10_init 5 = .ok (.bipush 6, 2) := by decide +kernel
theorem dX10_init_7 : decode cX10_init 7 = .ok (.newarray .int, 2) := by decide +kernel
theorem dX10_init_9 : decode cX10_init 9 = .ok (.putfield 9, 3) := by decide +kernel
theorem dX10_init_12 : decode cX10_init 12 = .ok (.return_, 1) := by decide +kernel
theorem dX10_spread_0 : decode cX10_spread 0 = .ok (.iconst 0, 1) := by decide +kernel
theorem dX10_spread_1 : decode cX10_spread 1 = .ok (.istore 5, 2) := by decide +kernel
theorem dX10_spread_3 : decode cX10_spread 3 = .ok (.iload 5, 2) := by decide +kernel
theorem dX10_spread_5 : decode cX10_spread 5 = .ok (.bipush 6, 2) := by decide +kernel
theorem dX10_spread_7 : decode cX10_spread 7 = .ok (.if_icmp .ge 18, 3) := by decide +kernel
theorem dX10_spread_10 : decode cX10_spread 10 = .ok (.aload_n 0, 1) := by decide +kernel
theorem dX10_spread_11 : decode cX10_spread 11 = .ok (.getfield 9, 3) := by decide +kernel
theorem dX10_spread_14 : decode cX10_spread 14 = .ok (.iload 5, 2) := by decide +kernel
theorem dX10_spread_16 : decode cX10_spread 16 = .ok (.ldc 15, 2) := by decide +kernel
theorem dX10_spread_18 : decode cX10_spread 18 = .ok (.iastore, 1) := by decide +kernel
theorem dX10_spread_19 : decode cX10_spread 19 = .ok (.iinc 5 1, 3) := by decide +kernel
theorem dX10_spread_22 : decode cX10_spread 22 = .ok (.goto (-19), 3) := by decide +kernel
theorem dX10_spread_25 : decode cX10_spread 25 = .ok (.aload_n 0, 1) := by decide +kernel
theorem dX10_spread_26 : decode cX10_spread 26 = .ok (.getfield 9, 3) := by decide +kernel
theorem dX10_spread_29 : decode cX10_spread 29 = .ok (.iload_n 2, 1) := by decide +kernel
theorem dX10_spread_30 : decode cX10_spread 30 = .ok (.iload_n 3, 1) := by decide +kernel
theorem dX10_spread_31 : decode cX10_spread 31 = .ok (.iastore, 1) := by decide +kernel
theorem dX10_spread_32 : decode cX10_spread 32 = .ok (.iconst 1, 1) := by decide +kernel
theorem dX10_spread_33 : decode cX10_spread 33 = .ok (.istore 5, 2) := by decide +kernel
theorem dX10_spread_35 : decode cX10_spread 35 = .ok (.iconst 1, 1) := by decide +kernel
theorem dX10_spread_36 : decode cX10_spread 36 = .ok (.istore 6, 2) := by decide +kernel
theorem dX10_spread_38 : decode cX10_spread 38 = .ok (.iload 6, 2) := by decide +kernel
theorem dX10_spread_40 : decode cX10_spread 40 = .ok (.aload_n 1, 1) := by decide +kernel
theorem dX10_spread_41 : decode cX10_spread 41 = .ok (.getfield 16, 3) := by decide +kernel
theorem dX10_spread_44 : decode cX10_spread 44 = .ok (.if_icmp .ge 110, 3) := by decide +kernel
theorem dX10_spread_47 : decode cX10_spread 47 = .ok (.iload 5, 2) := by decide +kernel
theorem dX10_spread_49 : decode cX10_spread 49 = .ok (.ifCond .eq 105, 3) := by decide +kernel
theorem dX10_spread_52 : decode cX10_spread 52 = .ok (.iconst 0, 1) := by decide +kernel
theorem dX10_spread_53 : decode cX10_spread 53 = .ok (.istore 5, 2) := by decide +kernel
theorem dX10_spread_55 : decode cX10_spread 55 = .ok (.iconst 0, 1) := by decide +kernel
theorem dX10_spread_56 : decode cX10_spread 56 = .ok (.istore 7, 2) := by decide +kernel
theorem dX10_spread_58 : decode cX10_spread 58 = .ok (.iload 7, 2) := by decide +kernel
theorem dX10_spread_60 : decode cX10_spread 60 = .ok (.aload_n 1, 1) := by decide +kernel
theorem dX10_spread_61 : decode cX10_spread 61 = .ok (.getfield 22, 3) := by decide +kernel
theorem dX10_spread_64 : decode cX10_spread 64 = .ok (.if_icmp .ge 84, 3) := by decide +kernel
theorem dX10_spread_67 : decode cX10_spread 67 = .ok (.aload_n 0, 1) := by decide +kernel
theorem dX10_spread_68 : decode cX10_spread 68 = .ok (.getfield 9, 3) := by decide +kernel
theorem dX10_spread_71 : decode cX10_spread 71 = .ok (.aload_n 1, 1) := by decide +kernel
theorem dX10_spread_72 : decode cX10_spread 72 = .ok (.getfield 25, 3) := by decide +kernel
theorem dX10_spread_75 : decode cX10_spread 75 = .ok (.iload 7, 2) := by decide +kernel
theorem dX10_spread_77 : decode cX10_spread 77 = .ok (.iaload, 1) := by decide +kernel
theorem dX10_spread_78 : decode cX10_spread 78 = .ok (.iaload, 1) := by decide +kernel
theorem dX10_spread_79 : decode cX10_spread 79 = .ok (.istore 8, 2) := by decide +kernel
theorem dX10_spread_81 : decode cX10_spread 81 = .ok (.iload 8, 2) := by decide +kernel
theorem dX10_spread_83 : decode cX10_spread 83 = .ok (.ldc 15, 2) := by decide +kernel
theorem dX10_spread_85 : decode cX10_spread 85 = .ok (.if_icmp .eq 57, 3) := by decide +kernel
theorem dX10_spread_88 : decode cX10_spread 88 = .ok (.iload 4, 2) := by decide +kernel
theorem dX10_spread_90 : decode cX10_spread 90 = .ok (.iload 7, 2) := by decide +kernel
theorem dX10_spread_92 : decode cX10_spread 92 = .ok (.invokestatic 28, 3) := by decide +kernel
theorem dX10_spread_95 : decode cX10_spread 95 = .ok (.ifCond .ne 47, 3) := by decide +kernel
theorem dX10_spread_98 : decode cX10_spread 98 = .ok (.aload_n 1, 1) := by decide +kernel
theorem dX10_spread_99 : decode cX10_spread 99 = .ok (.iload 7, 2) := by decide +kernel
theorem dX10_spread_101 : decode cX10_spread 101 = .ok (.iload 8, 2) := by decide +kernel
theorem dX10_spread_103 : decode cX10_spread 103 = .ok (.invokevirtual 32, 3) := by decide +kernel
theorem dX10_spread_106 : decode cX10_spread 106 = .ok (.istore 9, 2) := by decide +kernel
theorem dX10_spread_108 : decode cX10_spread 108 = .ok (.iload 9, 2) := by decide +kernel
theorem dX10_spread_110 : decode cX10_spread 110 = .ok (.aload_n 0, 1) := by decide +kernel
theorem dX10_spread_111 : decode cX10_spread 111 = .ok (.getfield 9, 3) := by decide +kernel
theorem dX10_spread_114 : decode cX10_spread 114 = .ok (.aload_n 1, 1) := by decide +kernel
theorem dX10_spread_115 : decode cX10_spread 115 = .ok (.getfield 36, 3) := by decide +kernel
theorem dX10_spread_118 : decode cX10_spread 118 = .ok (.iload 7, 2) := by decide +kernel
theorem dX10_spread_120 : decode cX10_spread 120 = .ok (.iaload, 1) := by decide +kernel
theorem dX10_spread_121 : decode cX10_spread 121 = .ok (.iaload, 1) := by decide +kernel
theorem dX10_spread_122 : decode cX10_spread 122 = .ok (.if_icmp .ge 20, 3) := by decide +kernel
theorem dX10_spread_125 : decode cX10_spread 125 = .ok (.aload_n 0, 1) := by decide +kernel
theorem dX10_spread_126 : decode cX10_spread 126 = .ok (.getfield 9, 3) := by decide +kernel
theorem dX10_spread_129 : decode cX10_spread 129 = .ok (.aload_n 1, 1) := by decide +kernel
theorem dX10_spread_130 : decode cX10_spread 130 = .ok (.getfield 36, 3) := by decide +kernel
theorem dX10_spread_133 : decode cX10_spread 133 = .ok (.iload 7, 2) := by decide +kernel
theorem dX10_spread_135 : decode cX10_spread 135 = .ok (.iaload, 1) := by decide +kernel
theorem dX10_spread_136 : decode cX10_spread 136 = .ok (.iload 9, 2) := by decide +kernel
theorem dX10_spread_138 : decode cX10_spread 138 = .ok (.iastore, 1) := by decide +kernel
theorem dX10_spread_139 : decode cX10_spread 139 = .ok (.iconst 1, 1) := by decide +kernel
theorem dX10_spread_140 : decode cX10_spread 140 = .ok (.istore 5, 2) := by decide +kernel
theorem dX10_spread_142 : decode cX10_spread 142 = .ok (.iinc 7 1, 3) := by decide +kernel
theorem dX10_spread_145 : decode cX10_spread 145 = .ok (.goto (-87), 3) := by decide +kernel
theorem dX10_spread_148 : decode cX10_spread 148 = .ok (.iinc 6 1, 3) := by decide +kernel
theorem dX10_spread_151 : decode cX10_spread 151 = .ok (.goto (-113), 3) := by decide +kernel
theorem dX10_spread_154 : decode cX10_spread 154 = .ok (.return_, 1) := by decide +kernel
theorem dX10_arrival_0 : decode cX10_arrival 0 = .ok (.iload_n 3, 1) := by decide +kernel
theorem dX10_arrival_1 : decode cX10_arrival 1 = .ok (.bipush 12, 2) := by decide +kernel
theorem dX10_arrival_3 : decode cX10_arrival 3 = .ok (.invokestatic 39, 3) := by decide +kernel
theorem dX10_arrival_6 : decode cX10_arrival 6 = .ok (.istore 5, 2) := by decide +kernel
theorem dX10_arrival_8 : decode cX10_arrival 8 = .ok (.iload_n 2, 1) := by decide +kernel
theorem dX10_arrival_9 : decode cX10_arrival 9 = .ok (.bipush 12, 2) := by decide +kernel
theorem dX10_arrival_11 : decode cX10_arrival 11 = .ok (.imul, 1) := by decide +kernel
theorem dX10_arrival_12 : decode cX10_arrival 12 = .ok (.iload 5, 2) := by decide +kernel
theorem dX10_arrival_14 : decode cX10_arrival 14 = .ok (.iadd, 1) := by decide +kernel
theorem dX10_arrival_15 : decode cX10_arrival 15 = .ok (.bipush 6, 2) := by decide +kernel
theorem dX10_arrival_17 : decode cX10_arrival 17 = .ok (.imul, 1) := by decide +kernel
theorem dX10_arrival_18 : decode cX10_arrival 18 = .ok (.istore 6, 2) := by decide +kernel
theorem dX10_arrival_20 : decode cX10_arrival 20 = .ok (.aload_n 1, 1) := by decide +kernel
theorem dX10_arrival_21 : decode cX10_arrival 21 = .ok (.getfield 44, 3) := by decide +kernel
theorem dX10_arrival_24 : decode cX10_arrival 24 = .ok (.iload_n 2, 1) := by decide +kernel
theorem dX10_arrival_25 : decode cX10_arrival 25 = .ok (.iaload, 1) := by decide +kernel
theorem dX10_arrival_26 : decode cX10_arrival 26 = .ok (.iload 5, 2) := by decide +kernel
theorem dX10_arrival_28 : decode cX10_arrival 28 = .ok (.invokestatic 28, 3) := by decide +kernel
theorem dX10_arrival_31 : decode cX10_arrival 31 = .ok (.ifCond .ne 78, 3) := by decide +kernel
theorem dX10_arrival_34 : decode cX10_arrival 34 = .ok (.aload_n 0, 1) := by decide +kernel
theorem dX10_arrival_35 : decode cX10_arrival 35 = .ok (.aload_n 1, 1) := by decide +kernel
theorem dX10_arrival_36 : decode cX10_arrival 36 = .ok (.iload_n 2, 1) := by decide +kernel
theorem dX10_arrival_37 : decode cX10_arrival 37 = .ok (.iload 5, 2) := by decide +kernel
theorem dX10_arrival_39 : decode cX10_arrival 39 = .ok (.iconst 0, 1) := by decide +kernel
theorem dX10_arrival_40 : decode cX10_arrival 40 = .ok (.invokevirtual 47, 3) := by decide +kernel
theorem dX10_arrival_43 : decode cX10_arrival 43 = .ok (.iconst 0, 1) := by decide +kernel
theorem dX10_arrival_44 : decode cX10_arrival 44 = .ok (.istore 7, 2) := by decide +kernel
theorem dX10_arrival_46 : decode cX10_arrival 46 = .ok (.iload 7, 2) := by decide +kernel
theorem dX10_arrival_48 : decode cX10_arrival 48 = .ok (.bipush 6, 2) := by decide +kernel
theorem dX10_arrival_50 : decode cX10_arrival 50 = .ok (.if_icmp .ge 46, 3) := by decide +kernel
theorem dX10_arrival_53 : decode cX10_arrival 53 = .ok (.aload_n 1, 1) := by decide +kernel
theorem dX10_arrival_54 : decode cX10_arrival 54 = .ok (.getfield 51, 3) := by decide +kernel
theorem dX10_arrival_57 : decode cX10_arrival 57 = .ok (.iload 6, 2) := by decide +kernel
theorem dX10_arrival_59 : decode cX10_arrival 59 = .ok (.iload 7, 2) := by decide +kernel
theorem dX10_arrival_61 : decode cX10_arrival 61 = .ok (.iadd, 1) := by decide +kernel
theorem dX10_arrival_62 : decode cX10_arrival 62 = .ok (.aload_n 0, 1) := by decide +kernel
theorem dX10_arrival_63 : decode cX10_arrival 63 = .ok (.getfield 9, 3) := by decide +kernel
theorem dX10_arrival_66 : decode cX10_arrival 66 = .ok (.iload 7, 2) := by decide +kernel
theorem dX10_arrival_68 : decode cX10_arrival 68 = .ok (.iaload, 1) := by decide +kernel
theorem dX10_arrival_69 : decode cX10_arrival 69 = .ok (.ldc 15, 2) := by decide +kernel
theorem dX10_arrival_71 : decode cX10_arrival 71 = .ok (.if_icmp .ne 8, 3) := by decide +kernel
theorem dX10_arrival_74 : decode cX10_arrival 74 = .ok (.ldc 15, 2) := by decide +kernel
theorem dX10_arrival_76 : decode cX10_arrival 76 = .ok (.goto 13, 3) := by decide +kernel
theorem dX10_arrival_79 : decode cX10_arrival 79 = .ok (.aload_n 0, 1) := by decide +kernel
theorem dX10_arrival_80 : decode cX10_arrival 80 = .ok (.getfield 9, 3) := by decide +kernel
theorem dX10_arrival_83 : decode cX10_arrival 83 = .ok (.iload 7, 2) := by decide +kernel
theorem dX10_arrival_85 : decode cX10_arrival 85 = .ok (.iaload, 1) := by decide +kernel
theorem dX10_arrival_86 : decode cX10_arrival 86 = .ok (.iload 5, 2) := by decide +kernel
theorem dX10_arrival_88 : decode cX10_arrival 88 = .ok (.isub, 1) := by decide +kernel
theorem dX10_arrival_89 : decode cX10_arrival 89 = .ok (.iastore, 1) := by decide +kernel
theorem dX10_arrival_90 : decode cX10_arrival 90 = .ok (.iinc 7 1, 3) := by decide +kernel
theorem dX10_arrival_93 : decode cX10_arrival 93 = .ok (.goto (-47), 3) := by decide +kernel
theorem dX10_arrival_96 : decode cX10_arrival 96 = .ok (.aload_n 1, 1) := by decide +kernel
theorem dX10_arrival_97 : decode cX10_arrival 97 = .ok (.getfield 44, 3) := by decide +kernel
theorem dX10_arrival_100 : decode cX10_arrival 100 = .ok (.iload_n 2, 1) := by decide +kernel
theorem dX10_arrival_101 : decode cX10_arrival 101 = .ok (.dup2, 1) := by decide +kernel
theorem dX10_arrival_102 : decode cX10_arrival 102 = .ok (.iaload, 1) := by decide +kernel
theorem dX10_arrival_103 : decode cX10_arrival 103 = .ok (.iconst 1, 1) := by decide +kernel
theorem dX10_arrival_104 : decode cX10_arrival 104 = .ok (.iload 5, 2) := by decide +kernel
theorem dX10_arrival_106 : decode cX10_arrival 106 = .ok (.ishl, 1) := by decide +kernel
theorem dX10_arrival_107 : decode cX10_arrival 107 = .ok (.ior, 1) := by decide +kernel
theorem dX10_arrival_108 : decode cX10_arrival 108 = .ok (.iastore, 1) := by decide +kernel
theorem dX10_arrival_109 : decode cX10_arrival 109 = .ok (.aload_n 1, 1) := by decide +kernel
theorem dX10_arrival_110 : decode cX10_arrival 110 = .ok (.getfield 51, 3) := by decide +kernel
theorem dX10_arrival_113 : decode cX10_arrival 113 = .ok (.iload 6, 2) := by decide +kernel
theorem dX10_arrival_115 : decode cX10_arrival 115 = .ok (.iload 4, 2) := by decide +kernel
theorem dX10_arrival_117 : decode cX10_arrival 117 = .ok (.iadd, 1) := by decide +kernel
theorem dX10_arrival_118 : decode cX10_arrival 118 = .ok (.iaload, 1) := by decide +kernel
theorem dX10_arrival_119 : decode cX10_arrival 119 = .ok (.istore 7, 2) := by decide +kernel
theorem dX10_arrival_121 : decode cX10_arrival 121 = .ok (.iload 7, 2) := by decide +kernel
theorem dX10_arrival_123 : decode cX10_arrival 123 = .ok (.ldc 15, 2) := by decide +kernel
theorem dX10_arrival_125 : decode cX10_arrival 125 = .ok (.if_icmp .ne 8, 3) := by decide +kernel
theorem dX10_arrival_128 : decode cX10_arrival 128 = .ok (.ldc 15, 2) := by decide +kernel
theorem dX10_arrival_130 : decode cX10_arrival 130 = .ok (.goto 7, 3) := by decide +kernel
theorem dX10_arrival_133 : decode cX10_arrival 133 = .ok (.iload_n 3, 1) := by decide +kernel
theorem dX10_arrival_134 : decode cX10_arrival 134 = .ok (.iload 7, 2) := by decide +kernel
theorem dX10_arrival_136 : decode cX10_arrival 136 = .ok (.iadd, 1) := by decide +kernel
theorem dX10_arrival_137 : decode cX10_arrival 137 = .ok (.ireturn, 1) := by decide +kernel
theorem dX10_firstTrain_0 : decode cX10_firstTrain 0 = .ok (.iload_n 2, 1) := by decide +kernel
theorem dX10_firstTrain_1 : decode cX10_firstTrain 1 = .ok (.iload 4, 2) := by decide +kernel
theorem dX10_firstTrain_3 : decode cX10_firstTrain 3 = .ok (.if_icmp .ne 5, 3) := by decide +kernel
theorem dX10_firstTrain_6 : decode cX10_firstTrain 6 = .ok (.iconst (-1), 1) := by decide +kernel
theorem dX10_firstTrain_7 : decode cX10_firstTrain 7 = .ok (.ireturn, 1) := by decide +kernel
theorem dX10_firstTrain_8 : decode cX10_firstTrain 8 = .ok (.aload_n 0, 1) := by decide +kernel
theorem dX10_firstTrain_9 : decode cX10_firstTrain 9 = .ok (.aload_n 1, 1) := by decide +kernel
theorem dX10_firstTrain_10 : decode cX10_firstTrain 10 = .ok (.iload_n 2, 1) := by decide +kernel
theorem dX10_firstTrain_11 : decode cX10_firstTrain 11 = .ok (.iload_n 3, 1) := by decide +kernel
theorem dX10_firstTrain_12 : decode cX10_firstTrain 12 = .ok (.iload 4, 2) := by decide +kernel
theorem dX10_firstTrain_14 : decode cX10_firstTrain 14 = .ok (.invokevirtual 54, 3) := by decide +kernel
theorem dX10_firstTrain_17 : decode cX10_firstTrain 17 = .ok (.istore 5, 2) := by decide +kernel
theorem dX10_firstTrain_19 : decode cX10_firstTrain 19 = .ok (.iconst 0, 1) := by decide +kernel
theorem dX10_firstTrain_20 : decode cX10_firstTrain 20 = .ok (.istore 6, 2) := by decide +kernel
theorem dX10_firstTrain_22 : decode cX10_firstTrain 22 = .ok (.iload 6, 2) := by decide +kernel
theorem dX10_firstTrain_24 : decode cX10_firstTrain 24 = .ok (.aload_n 1, 1) := by decide +kernel
theorem dX10_firstTrain_25 : decode cX10_firstTrain 25 = .ok (.getfield 22, 3) := by decide +kernel
theorem dX10_firstTrain_28 : decode cX10_firstTrain 28 = .ok (.if_icmp .ge 53, 3) := by decide +kernel
theorem dX10_firstTrain_31 : decode cX10_firstTrain 31 = .ok (.aload_n 1, 1) := by decide +kernel
theorem dX10_firstTrain_32 : decode cX10_firstTrain 32 = .ok (.getfield 25, 3) := by decide +kernel
theorem dX10_firstTrain_35 : decode cX10_firstTrain 35 = .ok (.iload 6, 2) := by decide +kernel
theorem dX10_firstTrain_37 : decode cX10_firstTrain 37 = .ok (.iaload, 1) := by decide +kernel
theorem dX10_firstTrain_38 : decode cX10_firstTrain 38 = .ok (.iload_n 2, 1) := by decide +kernel
theorem dX10_firstTrain_39 : decode cX10_firstTrain 39 = .ok (.if_icmp .ne 36, 3) := by decide +kernel
theorem dX10_firstTrain_42 : decode cX10_firstTrain 42 = .ok (.aload_n 1, 1) := by decide +kernel
theorem dX10_firstTrain_43 : decode cX10_firstTrain 43 = .ok (.iload 6, 2) := by decide +kernel
theorem dX10_firstTrain_45 : decode cX10_firstTrain 45 = .ok (.iload_n 3, 1) := by decide +kernel
theorem dX10_firstTrain_46 : decode cX10_firstTrain 46 = .ok (.invokevirtual 32, 3) := by decide +kernel
theorem dX10_firstTrain_49 : decode cX10_firstTrain 49 = .ok (.istore 7, 2) := by decide +kernel
theorem dX10_firstTrain_51 : decode cX10_firstTrain 51 = .ok (.aload_n 0, 1) := by decide +kernel
theorem dX10_firstTrain_52 : decode cX10_firstTrain 52 = .ok (.aload_n 1, 1) := by decide +kernel
theorem dX10_firstTrain_53 : decode cX10_firstTrain 53 = .ok (.aload_n 1, 1) := by decide +kernel
theorem dX10_firstTrain_54 : decode cX10_firstTrain 54 = .ok (.getfield 36, 3) := by decide +kernel
theorem dX10_firstTrain_57 : decode cX10_firstTrain 57 = .ok (.iload 6, 2) := by decide +kernel
theorem dX10_firstTrain_59 : decode cX10_firstTrain 59 = .ok (.iaload, 1) := by decide +kernel
theorem dX10_firstTrain_60 : decode cX10_firstTrain 60 = .ok (.iload 7, 2) := by decide +kernel
theorem dX10_firstTrain_62 : decode cX10_firstTrain 62 = .ok (.iload 4, 2) := by decide +kernel
theorem dX10_firstTrain_64 : decode cX10_firstTrain 64 = .ok (.invokevirtual 54, 3) := by decide +kernel
theorem dX10_firstTrain_67 : decode cX10_firstTrain 67 = .ok (.iload 5, 2) := by decide +kernel
theorem dX10_firstTrain_69 : decode cX10_firstTrain 69 = .ok (.if_icmp .ne 6, 3) := by decide +kernel
theorem dX10_firstTrain_72 : decode cX10_firstTrain 72 = .ok (.iload 6, 2) := by decide +kernel
theorem dX10_firstTrain_74 : decode cX10_firstTrain 74 = .ok (.ireturn, 1) := by decide +kernel
theorem dX10_firstTrain_75 : decode cX10_firstTrain 75 = .ok (.iinc 6 1, 3) := by decide +kernel
theorem dX10_firstTrain_78 : decode cX10_firstTrain 78 = .ok (.goto (-56), 3) := by decide +kernel
theorem dX10_firstTrain_81 : decode cX10_firstTrain 81 = .ok (.iconst (-1), 1) := by decide +kernel
theorem dX10_firstTrain_82 : decode cX10_firstTrain 82 = .ok (.ireturn, 1) := by decide +kernel
theorem dX10_latestHour_0 : decode cX10_latestHour 0 = .ok (.iload 4, 2) := by decide +kernel
theorem dX10_latestHour_2 : decode cX10_latestHour 2 = .ok (.istore 5, 2) := by decide +kernel
theorem dX10_latestHour_4 : decode cX10_latestHour 4 = .ok (.iload 5, 2) := by decide +kernel
theorem dX10_latestHour_6 : decode cX10_latestHour 6 = .ok (.ifCond .lt 26, 3) := by decide +kernel
theorem dX10_latestHour_9 : decode cX10_latestHour 9 = .ok (.aload_n 0, 1) := by decide +kernel
theorem dX10_latestHour_10 : decode cX10_latestHour 10 = .ok (.aload_n 1, 1) := by decide +kernel
theorem dX10_latestHour_11 : decode cX10_latestHour 11 = .ok (.iload_n 2, 1) := by decide +kernel
theorem dX10_latestHour_12 : decode cX10_latestHour 12 = .ok (.iload 5, 2) := by decide +kernel
theorem dX10_latestHour_14 : decode cX10_latestHour 14 = .ok (.iload_n 3, 1) := by decide +kernel
theorem dX10_latestHour_15 : decode cX10_latestHour 15 = .ok (.invokevirtual 54, 3) := by decide +kernel
theorem dX10_latestHour_18 : decode cX10_latestHour 18 = .ok (.iload 4, 2) := by decide +kernel
theorem dX10_latestHour_20 : decode cX10_latestHour 20 = .ok (.if_icmp .gt 6, 3) := by decide +kernel
theorem dX10_latestHour_23 : decode cX10_latestHour 23 = .ok (.iload 5, 2) := by decide +kernel
theorem dX10_latestHour_25 : decode cX10_latestHour 25 = .ok (.ireturn, 1) := by decide +kernel
theorem dX10_latestHour_26 : decode cX10_latestHour 26 = .ok (.iinc 5 (-1), 3) := by decide +kernel
theorem dX10_latestHour_29 : decode cX10_latestHour 29 = .ok (.goto (-25), 3) := by decide +kernel
theorem dX10_latestHour_32 : decode cX10_latestHour 32 = .ok (.iconst (-1), 1) := by decide +kernel
theorem dX10_latestHour_33 : decode cX10_latestHour 33 = .ok (.ireturn, 1) := by decide +kernel
theorem dX10_gathering_0 : decode cX10_gathering 0 = .ok (.ldc 15, 2) := by decide +kernel
theorem dX10_gathering_2 : decode cX10_gathering 2 = .ok (.istore 4, 2) := by decide +kernel
theorem dX10_gathering_4 : decode cX10_gathering 4 = .ok (.iconst (-1), 1) := by decide +kernel
theorem dX10_gathering_5 : decode cX10_gathering 5 = .ok (.istore 5, 2) := by decide +kernel
theorem dX10_gathering_7 : decode cX10_gathering 7 = .ok (.iconst 0, 1) := by decide +kernel
theorem dX10_gathering_8 : decode cX10_gathering 8 = .ok (.istore 6, 2) := by decide +kernel
theorem dX10_gathering_10 : decode cX10_gathering 10 = .ok (.iload 6, 2) := by decide +kernel
theorem dX10_gathering_12 : decode cX10_gathering 12 = .ok (.aload_n 1, 1) := by decide +kernel
theorem dX10_gathering_13 : decode cX10_gathering 13 = .ok (.getfield 16, 3) := by decide +kernel
theorem dX10_gathering_16 : decode cX10_gathering 16 = .ok (.if_icmp .ge 76, 3) := by decide +kernel
theorem dX10_gathering_19 : decode cX10_gathering 19 = .ok (.iconst 0, 1) := by decide +kernel
theorem dX10_gathering_20 : decode cX10_gathering 20 = .ok (.istore 7, 2) := by decide +kernel
theorem dX10_gathering_22 : decode cX10_gathering 22 = .ok (.iconst 0, 1) := by decide +kernel
theorem dX10_gathering_23 : decode cX10_gathering 23 = .ok (.istore 8, 2) := by decide +kernel
theorem dX10_gathering_25 : decode cX10_gathering 25 = .ok (.iload 8, 2) := by decide +kernel
theorem dX10_gathering_27 : decode cX10_gathering 27 = .ok (.aload_n 1, 1) := by decide +kernel
theorem dX10_gathering_28 : decode cX10_gathering 28 = .ok (.getfield 58, 3) := by decide +kernel
theorem dX10_gathering_31 : decode cX10_gathering 31 = .ok (.if_icmp .ge 40, 3) := by decide +kernel
theorem dX10_gathering_34 : decode cX10_gathering 34 = .ok (.iload_n 2, 1) := by decide +kernel
theorem dX10_gathering_35 : decode cX10_gathering 35 = .ok (.iload 8, 2) := by decide +kernel
theorem dX10_gathering_37 : decode cX10_gathering 37 = .ok (.invokestatic 28, 3) := by decide +kernel
theorem dX10_gathering_40 : decode cX10_gathering 40 = .ok (.ifCond .eq 25, 3) := by decide +kernel
theorem dX10_gathering_43 : decode cX10_gathering 43 = .ok (.iload 7, 2) := by decide +kernel
theorem dX10_gathering_45 : decode cX10_gathering 45 = .ok (.aload_n 0, 1) := by decide +kernel
theorem dX10_gathering_46 : decode cX10_gathering 46 = .ok (.aload_n 1, 1) := by decide +kernel
theorem dX10_gathering_47 : decode cX10_gathering 47 = .ok (.aload_n 1, 1) := by decide +kernel
theorem dX10_gathering_48 : decode cX10_gathering 48 = .ok (.getfield 61, 3) := by decide +kernel
theorem dX10_gathering_51 : decode cX10_gathering 51 = .ok (.iload 8, 2) := by decide +kernel
theorem dX10_gathering_53 : decode cX10_gathering 53 = .ok (.iaload, 1) := by decide +kernel
theorem dX10_gathering_54 : decode cX10_gathering 54 = .ok (.iconst 0, 1) := by decide +kernel
theorem dX10_gathering_55 : decode cX10_gathering 55 = .ok (.iload 6, 2) := by decide +kernel
theorem dX10_gathering_57 : decode cX10_gathering 57 = .ok (.invokevirtual 54, 3) := by decide +kernel
theorem dX10_gathering_60 : decode cX10_gathering 60 = .ok (.invokestatic 64, 3) := by decide +kernel
theorem dX10_gathering_63 : decode cX10_gathering 63 = .ok (.istore 7, 2) := by decide +kernel
theorem dX10_gathering_65 : decode cX10_gathering 65 = .ok (.iinc 8 1, 3) := by decide +kernel
theorem dX10_gathering_68 : decode cX10_gathering 68 = .ok (.goto (-43), 3) := by decide +kernel
theorem dX10_gathering_71 : decode cX10_gathering 71 = .ok (.iload 7, 2) := by decide +kernel
theorem dX10_gathering_73 : decode cX10_gathering 73 = .ok (.iload 4, 2) := by decide +kernel
theorem dX10_gathering_75 : decode cX10_gathering 75 = .ok (.if_icmp .ge 11, 3) := by decide +kernel
theorem dX10_gathering_78 : decode cX10_gathering 78 = .ok (.iload 7, 2) := by decide +kernel
theorem dX10_gathering_80 : decode cX10_gathering 80 = .ok (.istore 4, 2) := by decide +kernel
theorem dX10_gathering_82 : decode cX10_gathering 82 = .ok (.iload 6, 2) := by decide +kernel
theorem dX10_gathering_84 : decode cX10_gathering 84 = .ok (.istore 5, 2) := by decide +kernel
theorem dX10_gathering_86 : decode cX10_gathering 86 = .ok (.iinc 6 1, 3) := by decide +kernel
theorem dX10_gathering_89 : decode cX10_gathering 89 = .ok (.goto (-79), 3) := by decide +kernel
theorem dX10_gathering_92 : decode cX10_gathering 92 = .ok (.iload 4, 2) := by decide +kernel
theorem dX10_gathering_94 : decode cX10_gathering 94 = .ok (.ldc 15, 2) := by decide +kernel
theorem dX10_gathering_96 : decode cX10_gathering 96 = .ok (.if_icmp .ne 5, 3) := by decide +kernel
theorem dX10_gathering_99 : decode cX10_gathering 99 = .ok (.iconst (-1), 1) := by decide +kernel
theorem dX10_gathering_100 : decode cX10_gathering 100 = .ok (.ireturn, 1) := by decide +kernel
theorem dX10_gathering_101 : decode cX10_gathering 101 = .ok (.iload_n 3, 1) := by decide +kernel
theorem dX10_gathering_102 : decode cX10_gathering 102 = .ok (.ifCond .eq 8, 3) := by decide +kernel
theorem dX10_gathering_105 : decode cX10_gathering 105 = .ok (.iload 5, 2) := by decide +kernel
theorem dX10_gathering_107 : decode cX10_gathering 107 = .ok (.goto 5, 3) := by decide +kernel
theorem dX10_gathering_110 : decode cX10_gathering 110 = .ok (.iload 4, 2) := by decide +kernel
theorem dX10_gathering_112 : decode cX10_gathering 112 = .ok (.ireturn, 1) := by decide +kernel
theorem dX10_bestOffices_0 : decode cX10_bestOffices 0 = .ok (.ldc 15, 2) := by decide +kernel
theorem dX10_bestOffices_2 : decode cX10_bestOffices 2 = .ok (.istore 4, 2) := by decide +kernel
theorem dX10_bestOffices_4 : decode cX10_bestOffices 4 = .ok (.iconst (-1), 1) := by decide +kernel
theorem dX10_bestOffices_5 : decode cX10_bestOffices 5 = .ok (.istore 5, 2) := by decide +kernel
theorem dX10_bestOffices_7 : decode cX10_bestOffices 7 = .ok (.iconst 1, 1) := by decide +kernel
theorem dX10_bestOffices_8 : decode cX10_bestOffices 8 = .ok (.istore 6, 2) := by decide +kernel
theorem dX10_bestOffices_10 : decode cX10_bestOffices 10 = .ok (.iload 6, 2) := by decide +kernel
theorem dX10_bestOffices_12 : decode cX10_bestOffices 12 = .ok (.iconst 1, 1) := by decide +kernel
theorem dX10_bestOffices_13 : decode cX10_bestOffices 13 = .ok (.aload_n 1, 1) := by decide +kernel
theorem dX10_bestOffices_14 : decode cX10_bestOffices 14 = .ok (.getfield 16, 3) := by decide +kernel
theorem dX10_bestOffices_17 : decode cX10_bestOffices 17 = .ok (.ishl, 1) := by decide +kernel
theorem dX10_bestOffices_18 : decode cX10_bestOffices 18 = .ok (.if_icmp .ge 42, 3) := by decide +kernel
theorem dX10_bestOffices_21 : decode cX10_bestOffices 21 = .ok (.iload 6, 2) := by decide +kernel
theorem dX10_bestOffices_23 : decode cX10_bestOffices 23 = .ok (.invokestatic 67, 3) := by decide +kernel
theorem dX10_bestOffices_26 : decode cX10_bestOffices 26 = .ok (.iload_n 2, 1) := by decide +kernel
theorem dX10_bestOffices_27 : decode cX10_bestOffices 27 = .ok (.if_icmp .ne 27, 3) := by decide +kernel
theorem dX10_bestOffices_30 : decode cX10_bestOffices 30 = .ok (.aload_n 0, 1) := by decide +kernel
theorem dX10_bestOffices_31 : decode cX10_bestOffices 31 = .ok (.aload_n 1, 1) := by decide +kernel
theorem dX10_bestOffices_32 : decode cX10_bestOffices 32 = .ok (.iload 6, 2) := by decide +kernel
theorem dX10_bestOffices_34 : decode cX10_bestOffices 34 = .ok (.invokevirtual 73, 3) := by decide +kernel
theorem dX10_bestOffices_37 : decode cX10_bestOffices 37 = .ok (.istore 7, 2) := by decide +kernel
theorem dX10_bestOffices_39 : decode cX10_bestOffices 39 = .ok (.iload 7, 2) := by decide +kernel
theorem dX10_bestOffices_41 : decode cX10_bestOffices 41 = .ok (.iload 4, 2) := by decide +kernel
theorem dX10_bestOffices_43 : decode cX10_bestOffices 43 = .ok (.if_icmp .ge 11, 3) := by decide +kernel
theorem dX10_bestOffices_46 : decode cX10_bestOffices 46 = .ok (.iload 7, 2) := by decide +kernel
theorem dX10_bestOffices_48 : decode cX10_bestOffices 48 = .ok (.istore 4, 2) := by decide +kernel
theorem dX10_bestOffices_50 : decode cX10_bestOffices 50 = .ok (.iload 6, 2) := by decide +kernel
theorem dX10_bestOffices_52 : decode cX10_bestOffices 52 = .ok (.istore 5, 2) := by decide +kernel
theorem dX10_bestOffices_54 : decode cX10_bestOffices 54 = .ok (.iinc 6 1, 3) := by decide +kernel
theorem dX10_bestOffices_57 : decode cX10_bestOffices 57 = .ok (.goto (-47), 3) := by decide +kernel
theorem dX10_bestOffices_60 : decode cX10_bestOffices 60 = .ok (.iload 4, 2) := by decide +kernel
theorem dX10_bestOffices_62 : decode cX10_bestOffices 62 = .ok (.ldc 15, 2) := by decide +kernel
theorem dX10_bestOffices_64 : decode cX10_bestOffices 64 = .ok (.if_icmp .ne 5, 3) := by decide +kernel
theorem dX10_bestOffices_67 : decode cX10_bestOffices 67 = .ok (.iconst (-1), 1) := by decide +kernel
theorem dX10_bestOffices_68 : decode cX10_bestOffices 68 = .ok (.ireturn, 1) := by decide +kernel
theorem dX10_bestOffices_69 : decode cX10_bestOffices 69 = .ok (.iload_n 3, 1) := by decide +kernel
theorem dX10_bestOffices_70 : decode cX10_bestOffices 70 = .ok (.ifCond .eq 8, 3) := by decide +kernel
theorem dX10_bestOffices_73 : decode cX10_bestOffices 73 = .ok (.iload 4, 2) := by decide +kernel
theorem dX10_bestOffices_75 : decode cX10_bestOffices 75 = .ok (.goto 5, 3) := by decide +kernel
theorem dX10_bestOffices_78 : decode cX10_bestOffices 78 = .ok (.iload 5, 2) := by decide +kernel
theorem dX10_bestOffices_80 : decode cX10_bestOffices 80 = .ok (.ireturn, 1) := by decide +kernel
theorem dX10_hoursToOffices_0 : decode cX10_hoursToOffices 0 = .ok (.iconst 0, 1) := by decide +kernel
theorem dX10_hoursToOffices_1 : decode cX10_hoursToOffices 1 = .ok (.istore_n 3, 1) := by decide +kernel
theorem dX10_hoursToOffices_2 : decode cX10_hoursToOffices 2 = .ok (.iconst 0, 1) := by decide +kernel
theorem dX10_hoursToOffices_3 : decode cX10_hoursToOffices 3 = .ok (.istore 4, 2) := by decide +kernel
theorem dX10_hoursToOffices_5 : decode cX10_hoursToOffices 5 = .ok (.iload 4, 2) := by decide +kernel
theorem dX10_hoursToOffices_7 : decode cX10_hoursToOffices 7 = .ok (.aload_n 1, 1) := by decide +kernel
theorem dX10_hoursToOffices_8 : decode cX10_hoursToOffices 8 = .ok (.getfield 16, 3) := by decide +kernel
theorem dX10_hoursToOffices_11 : decode cX10_hoursToOffices 11 = .ok (.if_icmp .ge 72, 3) := by decide +kernel
theorem dX10_hoursToOffices_14 : decode cX10_hoursToOffices 14 = .ok (.ldc 15, 2) := by decide +kernel
theorem dX10_hoursToOffices_16 : decode cX10_hoursToOffices 16 = .ok (.istore 5, 2) := by decide +kernel
theorem dX10_hoursToOffices_18 : decode cX10_hoursToOffices 18 = .ok (.iconst 0, 1) := by decide +kernel
theorem dX10_hoursToOffices_19 : decode cX10_hoursToOffices 19 = .ok (.istore 6, 2) := by decide +kernel
theorem dX10_hoursToOffices_21 : decode cX10_hoursToOffices 21 = .ok (.iload 6, 2) := by decide +kernel
theorem dX10_hoursToOffices_23 : decode cX10_hoursToOffices 23 = .ok (.aload_n 1, 1) := by decide +kernel
theorem dX10_hoursToOffices_24 : decode cX10_hoursToOffices 24 = .ok (.getfield 16, 3) := by decide +kernel
theorem dX10_hoursToOffices_27 : decode cX10_hoursToOffices 27 = .ok (.if_icmp .ge 35, 3) := by decide +kernel
theorem dX10_hoursToOffices_30 : decode cX10_hoursToOffices 30 = .ok (.iload_n 2, 1) := by decide +kernel
theorem dX10_hoursToOffices_31 : decode cX10_hoursToOffices 31 = .ok (.iload 6, 2) := by decide +kernel
theorem dX10_hoursToOffices_33 : decode cX10_hoursToOffices 33 = .ok (.invokestatic 28, 3) := by decide +kernel
theorem dX10_hoursToOffices_36 : decode cX10_hoursToOffices 36 = .ok (.ifCond .eq 20, 3) := by decide +kernel
theorem dX10_hoursToOffices_39 : decode cX10_hoursToOffices 39 = .ok (.iload 5, 2) := by decide +kernel
theorem dX10_hoursToOffices_41 : decode cX10_hoursToOffices 41 = .ok (.aload_n 0, 1) := by decide +kernel
theorem dX10_hoursToOffices_42 : decode cX10_hoursToOffices 42 = .ok (.aload_n 1, 1) := by decide +kernel
theorem dX10_hoursToOffices_43 : decode cX10_hoursToOffices 43 = .ok (.iload 4, 2) := by decide +kernel
theorem dX10_hoursToOffices_45 : decode cX10_hoursToOffices 45 = .ok (.iconst 0, 1) := by decide +kernel
theorem dX10_hoursToOffices_46 : decode cX10_hoursToOffices 46 = .ok (.iload 6, 2) := by decide +kernel
theorem dX10_hoursToOffices_48 : decode cX10_hoursToOffices 48 = .ok (.invokevirtual 54, 3) := by decide +kernel
theorem dX10_hoursToOffices_51 : decode cX10_hoursToOffices 51 = .ok (.invokestatic 77, 3) := by decide +kernel
theorem dX10_hoursToOffices_54 : decode cX10_hoursToOffices 54 = .ok (.istore 5, 2) := by decide +kernel
theorem dX10_hoursToOffices_56 : decode cX10_hoursToOffices 56 = .ok (.iinc 6 1, 3) := by decide +kernel
theorem dX10_hoursToOffices_59 : decode cX10_hoursToOffices 59 = .ok (.goto (-38), 3) := by decide +kernel
theorem dX10_hoursToOffices_62 : decode cX10_hoursToOffices 62 = .ok (.iload 5, 2) := by decide +kernel
theorem dX10_hoursToOffices_64 : decode cX10_hoursToOffices 64 = .ok (.ldc 15, 2) := by decide +kernel
theorem dX10_hoursToOffices_66 : decode cX10_hoursToOffices 66 = .ok (.if_icmp .ne 6, 3) := by decide +kernel
theorem dX10_hoursToOffices_69 : decode cX10_hoursToOffices 69 = .ok (.ldc 15, 2) := by decide +kernel
theorem dX10_hoursToOffices_71 : decode cX10_hoursToOffices 71 = .ok (.ireturn, 1) := by decide +kernel
theorem dX10_hoursToOffices_72 : decode cX10_hoursToOffices 72 = .ok (.iload_n 3, 1) := by decide +kernel
theorem dX10_hoursToOffices_73 : decode cX10_hoursToOffices 73 = .ok (.iload 5, 2) := by decide +kernel
theorem dX10_hoursToOffices_75 : decode cX10_hoursToOffices 75 = .ok (.iadd, 1) := by decide +kernel
theorem dX10_hoursToOffices_76 : decode cX10_hoursToOffices 76 = .ok (.istore_n 3, 1) := by decide +kernel
theorem dX10_hoursToOffices_77 : decode cX10_hoursToOffices 77 = .ok (.iinc 4 1, 3) := by decide +kernel
theorem dX10_hoursToOffices_80 : decode cX10_hoursToOffices 80 = .ok (.goto (-75), 3) := by decide +kernel
theorem dX10_hoursToOffices_83 : decode cX10_hoursToOffices 83 = .ok (.iload_n 3, 1) := by decide +kernel
theorem dX10_hoursToOffices_84 : decode cX10_hoursToOffices 84 = .ok (.ireturn, 1) := by decide +kernel
theorem dX10_widest_0 : decode cX10_widest 0 = .ok (.iconst 0, 1) := by decide +kernel
theorem dX10_widest_1 : decode cX10_widest 1 = .ok (.istore_n 2, 1) := by decide +kernel
theorem dX10_widest_2 : decode cX10_widest 2 = .ok (.iconst 0, 1) := by decide +kernel
theorem dX10_widest_3 : decode cX10_widest 3 = .ok (.istore_n 3, 1) := by decide +kernel
theorem dX10_widest_4 : decode cX10_widest 4 = .ok (.iload_n 3, 1) := by decide +kernel
theorem dX10_widest_5 : decode cX10_widest 5 = .ok (.aload_n 1, 1) := by decide +kernel
theorem dX10_widest_6 : decode cX10_widest 6 = .ok (.getfield 16, 3) := by decide +kernel
theorem dX10_widest_9 : decode cX10_widest 9 = .ok (.if_icmp .ge 52, 3) := by decide +kernel
theorem dX10_widest_12 : decode cX10_widest 12 = .ok (.iconst 0, 1) := by decide +kernel
theorem dX10_widest_13 : decode cX10_widest 13 = .ok (.istore 4, 2) := by decide +kernel
theorem dX10_widest_15 : decode cX10_widest 15 = .ok (.iload 4, 2) := by decide +kernel
theorem dX10_widest_17 : decode cX10_widest 17 = .ok (.aload_n 1, 1) := by decide +kernel
theorem dX10_widest_18 : decode cX10_widest 18 = .ok (.getfield 16, 3) := by decide +kernel
theorem dX10_widest_21 : decode cX10_widest 21 = .ok (.if_icmp .ge 34, 3) := by decide +kernel
theorem dX10_widest_24 : decode cX10_widest 24 = .ok (.aload_n 0, 1) := by decide +kernel
theorem dX10_widest_25 : decode cX10_widest 25 = .ok (.aload_n 1, 1) := by decide +kernel
theorem dX10_widest_26 : decode cX10_widest 26 = .ok (.iload_n 3, 1) := by decide +kernel
theorem dX10_widest_27 : decode cX10_widest 27 = .ok (.iconst 0, 1) := by decide +kernel
theorem dX10_widest_28 : decode cX10_widest 28 = .ok (.iload 4, 2) := by decide +kernel
theorem dX10_widest_30 : decode cX10_widest 30 = .ok (.invokevirtual 54, 3) := by decide +kernel
theorem dX10_widest_33 : decode cX10_widest 33 = .ok (.istore 5, 2) := by decide +kernel
theorem dX10_widest_35 : decode cX10_widest 35 = .ok (.iload 5, 2) := by decide +kernel
theorem dX10_widest_37 : decode cX10_widest 37 = .ok (.ldc 15, 2) := by decide +kernel
theorem dX10_widest_39 : decode cX10_widest 39 = .ok (.if_icmp .eq 10, 3) := by decide +kernel
theorem dX10_widest_42 : decode cX10_widest 42 = .ok (.iload_n 2, 1) := by decide +kernel
theorem dX10_widest_43 : decode cX10_widest 43 = .ok (.iload 5, 2) := by decide +kernel
theorem dX10_widest_45 : decode cX10_widest 45 = .ok (.invokestatic 64, 3) := by decide +kernel
theorem dX10_widest_48 : decode cX10_widest 48 = .ok (.istore_n 2, 1) := by decide +kernel
theorem dX10_widest_49 : decode cX10_widest 49 = .ok (.iinc 4 1, 3) := by decide +kernel
theorem dX10_widest_52 : decode cX10_widest 52 = .ok (.goto (-37), 3) := by decide +kernel
theorem dX10_widest_55 : decode cX10_widest 55 = .ok (.iinc 3 1, 3) := by decide +kernel
theorem dX10_widest_58 : decode cX10_widest 58 = .ok (.goto (-54), 3) := by decide +kernel
theorem dX10_widest_61 : decode cX10_widest 61 = .ok (.iload_n 2, 1) := by decide +kernel
theorem dX10_widest_62 : decode cX10_widest 62 = .ok (.ireturn, 1) := by decide +kernel
theorem dX10_cutTrains_0 : decode cX10_cutTrains 0 = .ok (.iload_n 2, 1) := by decide +kernel
theorem dX10_cutTrains_1 : decode cX10_cutTrains 1 = .ok (.ifCond .ne 22, 3) := by decide +kernel
theorem dX10_cutTrains_4 : decode cX10_cutTrains 4 = .ok (.iload 5, 2) := by decide +kernel
theorem dX10_cutTrains_6 : decode cX10_cutTrains 6 = .ok (.ifCond .eq 7, 3) := by decide +kernel
theorem dX10_cutTrains_9 : decode cX10_cutTrains 9 = .ok (.iconst (-1), 1) := by decide +kernel
theorem dX10_cutTrains_10 : decode cX10_cutTrains 10 = .ok (.goto 12, 3) := by decide +kernel
theorem dX10_cutTrains_13 : decode cX10_cutTrains 13 = .ok (.aload_n 0, 1) := by decide +kernel
theorem dX10_cutTrains_14 : decode cX10_cutTrains 14 = .ok (.aload_n 1, 1) := by decide +kernel
theorem dX10_cutTrains_15 : decode cX10_cutTrains 15 = .ok (.iload_n 3, 1) := by decide +kernel
theorem dX10_cutTrains_16 : decode cX10_cutTrains 16 = .ok (.iload 4, 2) := by decide +kernel
theorem dX10_cutTrains_18 : decode cX10_cutTrains 18 = .ok (.iconst 0, 1) := by decide +kernel
theorem dX10_cutTrains_19 : decode cX10_cutTrains 19 = .ok (.invokevirtual 80, 3) := by decide +kernel
theorem dX10_cutTrains_22 : decode cX10_cutTrains 22 = .ok (.ireturn, 1) := by decide +kernel
theorem dX10_cutTrains_23 : decode cX10_cutTrains 23 = .ok (.iconst (-1), 1) := by decide +kernel
theorem dX10_cutTrains_24 : decode cX10_cutTrains 24 = .ok (.istore 6, 2) := by decide +kernel
theorem dX10_cutTrains_26 : decode cX10_cutTrains 26 = .ok (.bipush 12, 2) := by decide +kernel
theorem dX10_cutTrains_28 : decode cX10_cutTrains 28 = .ok (.istore 7, 2) := by decide +kernel
theorem dX10_cutTrains_30 : decode cX10_cutTrains 30 = .ok (.iconst 0, 1) := by decide +kernel
theorem dX10_cutTrains_31 : decode cX10_cutTrains 31 = .ok (.istore 8, 2) := by decide +kernel
theorem dX10_cutTrains_33 : decode cX10_cutTrains 33 = .ok (.iload 8, 2) := by decide +kernel
theorem dX10_cutTrains_35 : decode cX10_cutTrains 35 = .ok (.aload_n 1, 1) := by decide +kernel
theorem dX10_cutTrains_36 : decode cX10_cutTrains 36 = .ok (.getfield 22, 3) := by decide +kernel
theorem dX10_cutTrains_39 : decode cX10_cutTrains 39 = .ok (.if_icmp .ge 39, 3) := by decide +kernel
theorem dX10_cutTrains_42 : decode cX10_cutTrains 42 = .ok (.aload_n 0, 1) := by decide +kernel
theorem dX10_cutTrains_43 : decode cX10_cutTrains 43 = .ok (.aload_n 1, 1) := by decide +kernel
theorem dX10_cutTrains_44 : decode cX10_cutTrains 44 = .ok (.iload_n 2, 1) := by decide +kernel
theorem dX10_cutTrains_45 : decode cX10_cutTrains 45 = .ok (.iload_n 3, 1) := by decide +kernel
theorem dX10_cutTrains_46 : decode cX10_cutTrains 46 = .ok (.iload 4, 2) := by decide +kernel
theorem dX10_cutTrains_48 : decode cX10_cutTrains 48 = .ok (.iconst 1, 1) := by decide +kernel
theorem dX10_cutTrains_49 : decode cX10_cutTrains 49 = .ok (.iload 8, 2) := by decide +kernel
theorem dX10_cutTrains_51 : decode cX10_cutTrains 51 = .ok (.ishl, 1) := by decide +kernel
theorem dX10_cutTrains_52 : decode cX10_cutTrains 52 = .ok (.invokevirtual 83, 3) := by decide +kernel
theorem dX10_cutTrains_55 : decode cX10_cutTrains 55 = .ok (.istore 9, 2) := by decide +kernel
theorem dX10_cutTrains_57 : decode cX10_cutTrains 57 = .ok (.iload 9, 2) := by decide +kernel
theorem dX10_cutTrains_59 : decode cX10_cutTrains 59 = .ok (.iload 6, 2) := by decide +kernel
theorem dX10_cutTrains_61 : decode cX10_cutTrains 61 = .ok (.if_icmp .le 11, 3) := by decide +kernel
theorem dX10_cutTrains_64 : decode cX10_cutTrains 64 = .ok (.iload 9, 2) := by decide +kernel
theorem dX10_cutTrains_66 : decode cX10_cutTrains 66 = .ok (.istore 6, 2) := by decide +kernel
theorem dX10_cutTrains_68 : decode cX10_cutTrains 68 = .ok (.iload 8, 2) := by decide +kernel
theorem dX10_cutTrains_70 : decode cX10_cutTrains 70 = .ok (.istore 7, 2) := by decide +kernel
theorem dX10_cutTrains_72 : decode cX10_cutTrains 72 = .ok (.iinc 8 1, 3) := by decide +kernel
theorem dX10_cutTrains_75 : decode cX10_cutTrains 75 = .ok (.goto (-42), 3) := by decide +kernel
theorem dX10_cutTrains_78 : decode cX10_cutTrains 78 = .ok (.aload_n 0, 1) := by decide +kernel
theorem dX10_cutTrains_79 : decode cX10_cutTrains 79 = .ok (.aload_n 1, 1) := by decide +kernel
theorem dX10_cutTrains_80 : decode cX10_cutTrains 80 = .ok (.iload_n 2, 1) := by decide +kernel
theorem dX10_cutTrains_81 : decode cX10_cutTrains 81 = .ok (.iload_n 3, 1) := by decide +kernel
theorem dX10_cutTrains_82 : decode cX10_cutTrains 82 = .ok (.iload 4, 2) := by decide +kernel
theorem dX10_cutTrains_84 : decode cX10_cutTrains 84 = .ok (.iconst 0, 1) := by decide +kernel
theorem dX10_cutTrains_85 : decode cX10_cutTrains 85 = .ok (.invokevirtual 83, 3) := by decide +kernel
theorem dX10_cutTrains_88 : decode cX10_cutTrains 88 = .ok (.istore 8, 2) := by decide +kernel
theorem dX10_cutTrains_90 : decode cX10_cutTrains 90 = .ok (.iload 8, 2) := by decide +kernel
theorem dX10_cutTrains_92 : decode cX10_cutTrains 92 = .ok (.iload 6, 2) := by decide +kernel
theorem dX10_cutTrains_94 : decode cX10_cutTrains 94 = .ok (.if_icmp .le 11, 3) := by decide +kernel
theorem dX10_cutTrains_97 : decode cX10_cutTrains 97 = .ok (.iload 8, 2) := by decide +kernel
theorem dX10_cutTrains_99 : decode cX10_cutTrains 99 = .ok (.istore 6, 2) := by decide +kernel

theorem d3_init_0 : decode c3_init 0 = .ok (.aload_n 0, 1) := by decide +kernel
theorem d3_init_1 : decode c3_init 1 = .ok (.invokespecial 1, 3) := by decide +kernel
theorem d3_init_4 : decode c3_init 4 = .ok (.aload_n 0, 1) := by decide +kernel
theorem d3_init_5 : decode c3_init 5 = .ok (.iconst 5, 1) := by decide +kernel
theorem d3_init_6 : decode c3_init 6 = .ok (.newarray .int, 2) := by decide +kernel
theorem d3_init_8 : decode c3_init 8 = .ok (.putfield 7, 3) := by decide +kernel
theorem d3_init_11 : decode c3_init 11 = .ok (.aload_n 0, 1) := by decide +kernel
theorem d3_init_12 : decode c3_init 12 = .ok (.sipush 155, 3) := by decide +kernel
theorem d3_init_15 : decode c3_init 15 = .ok (.newarray .int, 2) := by decide +kernel
theorem d3_init_17 : decode c3_init 17 = .ok (.putfield 13, 3) := by decide +kernel
theorem d3_init_20 : decode c3_init 20 = .ok (.aload_n 0, 1) := by decide +kernel
theorem d3_init_21 : decode c3_init 21 = .ok (.sipush 155, 3) := by decide +kernel
theorem d3_init_24 : decode c3_init 24 = .ok (.newarray .int, 2) := by decide +kernel
theorem d3_init_26 : decode c3_init 26 = .ok (.putfield 16, 3) := by decide +kernel
theorem d3_init_29 : decode c3_init 29 = .ok (.aload_n 0, 1) := by decide +kernel
theorem d3_init_30 : decode c3_init 30 = .ok (.sipush 155, 3) := by decide +kernel
theorem d3_init_33 : decode c3_init 33 = .ok (.newarray .int, 2) := by decide +kernel
theorem d3_init_35 : decode c3_init 35 = .ok (.putfield 19, 3) := by decide +kernel
theorem d3_init_38 : decode c3_init 38 = .ok (.aload_n 0, 1) := by decide +kernel
theorem d3_init_39 : decode c3_init 39 = .ok (.iconst 3, 1) := by decide +kernel
theorem d3_init_40 : decode c3_init 40 = .ok (.newarray .boolean, 2) := by decide +kernel
theorem d3_init_42 : decode c3_init 42 = .ok (.putfield 22, 3) := by decide +kernel
theorem d3_init_45 : decode c3_init 45 = .ok (.aload_n 0, 1) := by decide +kernel
theorem d3_init_46 : decode c3_init 46 = .ok (.iconst (-1), 1) := by decide +kernel
theorem d3_init_47 : decode c3_init 47 = .ok (.putfield 26, 3) := by decide +kernel
theorem d3_init_50 : decode c3_init 50 = .ok (.return_, 1) := by decide +kernel
theorem d3_rank_0 : decode c3_rank 0 = .ok (.iload_n 0, 1) := by decide +kernel
theorem d3_rank_1 : decode c3_rank 1 = .ok (.iconst 1, 1) := by decide +kernel
theorem d3_rank_2 : decode c3_rank 2 = .ok (.iadd, 1) := by decide +kernel
theorem d3_rank_3 : decode c3_rank 3 = .ok (.ldc 30, 2) := by decide +kernel
theorem d3_rank_5 : decode c3_rank 5 = .ok (.imul, 1) := by decide +kernel
theorem d3_rank_6 : decode c3_rank 6 = .ok (.ldc 31, 2) := by decide +kernel
theorem d3_rank_8 : decode c3_rank 8 = .ok (.iadd, 1) := by decide +kernel
theorem d3_rank_9 : decode c3_rank 9 = .ok (.istore_n 1, 1) := by decide +kernel
theorem d3_rank_10 : decode c3_rank 10 = .ok (.iload_n 1, 1) := by decide +kernel
theorem d3_rank_11 : decode c3_rank 11 = .ok (.iload_n 1, 1) := by decide +kernel
theorem d3_rank_12 : decode c3_rank 12 = .ok (.bipush 15, 2) := by decide +kernel
theorem d3_rank_14 : decode c3_rank 14 = .ok (.iushr, 1) := by decide +kernel
theorem d3_rank_15 : decode c3_rank 15 = .ok (.ixor, 1) := by decide +kernel
theorem d3_rank_16 : decode c3_rank 16 = .ok (.ldc 32, 2) := by decide +kernel
theorem d3_rank_18 : decode c3_rank 18 = .ok (.iand, 1) := by decide +kernel
theorem d3_rank_19 : decode c3_rank 19 = .ok (.ireturn, 1) := by decide +kernel
theorem d3_higher_0 : decode c3_higher 0 = .ok (.iload_n 0, 1) := by decide +kernel
theorem d3_higher_1 : decode c3_higher 1 = .ok (.invokestatic 33, 3) := by decide +kernel
theorem d3_higher_4 : decode c3_higher 4 = .ok (.iload_n 1, 1) := by decide +kernel
theorem d3_higher_5 : decode c3_higher 5 = .ok (.invokestatic 33, 3) := by decide +kernel
theorem d3_higher_8 : decode c3_higher 8 = .ok (.if_icmp .gt 19, 3) := by decide +kernel
theorem d3_higher_11 : decode c3_higher 11 = .ok (.iload_n 0, 1) := by decide +kernel
theorem d3_higher_12 : decode c3_higher 12 = .ok (.invokestatic 33, 3) := by decide +kernel
theorem d3_higher_15 : decode c3_higher 15 = .ok (.iload_n 1, 1) := by decide +kernel
theorem d3_higher_16 : decode c3_higher 16 = .ok (.invokestatic 33, 3) := by decide +kernel
theorem d3_higher_19 : decode c3_higher 19 = .ok (.if_icmp .ne 12, 3) := by decide +kernel
theorem d3_higher_22 : decode c3_higher 22 = .ok (.iload_n 0, 1) := by decide +kernel
theorem d3_higher_23 : decode c3_higher 23 = .ok (.iload_n 1, 1) := by decide +kernel
theorem d3_higher_24 : decode c3_higher 24 = .ok (.if_icmp .ge 7, 3) := by decide +kernel
theorem d3_higher_27 : decode c3_higher 27 = .ok (.iconst 1, 1) := by decide +kernel
theorem d3_higher_28 : decode c3_higher 28 = .ok (.goto 4, 3) := by decide +kernel
theorem d3_higher_31 : decode c3_higher 31 = .ok (.iconst 0, 1) := by decide +kernel
theorem d3_higher_32 : decode c3_higher 32 = .ok (.ireturn, 1) := by decide +kernel
theorem d3_find_0 : decode c3_find 0 = .ok (.bipush 31, 2) := by decide +kernel
theorem d3_find_2 : decode c3_find 2 = .ok (.iload_n 1, 1) := by decide +kernel
theorem d3_find_3 : decode c3_find 3 = .ok (.imul, 1) := by decide +kernel
theorem d3_find_4 : decode c3_find 4 = .ok (.istore_n 3, 1) := by decide +kernel
theorem d3_find_5 : decode c3_find 5 = .ok (.iload_n 3, 1) := by decide +kernel
theorem d3_find_6 : decode c3_find 6 = .ok (.bipush 31, 2) := by decide +kernel
theorem d3_find_8 : decode c3_find 8 = .ok (.iload_n 1, 1) := by decide +kernel
theorem d3_find_9 : decode c3_find 9 = .ok (.imul, 1) := by decide +kernel
theorem d3_find_10 : decode c3_find 10 = .ok (.aload_n 0, 1) := by decide +kernel
theorem d3_find_11 : decode c3_find 11 = .ok (.getfield 7, 3) := by decide +kernel
theorem d3_find_14 : decode c3_find 14 = .ok (.iload_n 1, 1) := by decide +kernel
theorem d3_find_15 : decode c3_find 15 = .ok (.iaload, 1) := by decide +kernel
theorem d3_find_16 : decode c3_find 16 = .ok (.iadd, 1) := by decide +kernel
theorem d3_find_17 : decode c3_find 17 = .ok (.if_icmp .ge 21, 3) := by decide +kernel
theorem d3_find_20 : decode c3_find 20 = .ok (.aload_n 0, 1) := by decide +kernel
theorem d3_find_21 : decode c3_find 21 = .ok (.getfield 13, 3) := by decide +kernel
theorem d3_find_24 : decode c3_find 24 = .ok (.iload_n 3, 1) := by decide +kernel
theorem d3_find_25 : decode c3_find 25 = .ok (.iaload, 1) := by decide +kernel
theorem d3_find_26 : decode c3_find 26 = .ok (.iload_n 2, 1) := by decide +kernel
theorem d3_find_27 : decode c3_find 27 = .ok (.if_icmp .ne 5, 3) := by decide +kernel
theorem d3_find_30 : decode c3_find 30 = .ok (.iload_n 3, 1) := by decide +kernel
theorem d3_find_31 : decode c3_find 31 = .ok (.ireturn, 1) := by decide +kernel
theorem d3_find_32 : decode c3_find 32 = .ok (.iinc 3 1, 3) := by decide +kernel
theorem d3_find_35 : decode c3_find 35 = .ok (.goto (-30), 3) := by decide +kernel
theorem d3_find_38 : decode c3_find 38 = .ok (.iconst (-1), 1) := by decide +kernel
theorem d3_find_39 : decode c3_find 39 = .ok (.ireturn, 1) := by decide +kernel
theorem d3_first_0 : decode c3_first 0 = .ok (.iload_n 2, 1) := by decide +kernel
theorem d3_first_1 : decode c3_first 1 = .ok (.istore_n 3, 1) := by decide +kernel
theorem d3_first_2 : decode c3_first 2 = .ok (.iload_n 3, 1) := by decide +kernel
theorem d3_first_3 : decode c3_first 3 = .ok (.bipush 31, 2) := by decide +kernel
theorem d3_first_5 : decode c3_first 5 = .ok (.iload_n 1, 1) := by decide +kernel
theorem d3_first_6 : decode c3_first 6 = .ok (.imul, 1) := by decide +kernel
theorem d3_first_7 : decode c3_first 7 = .ok (.if_icmp .le 29, 3) := by decide +kernel
theorem d3_first_10 : decode c3_first 10 = .ok (.aload_n 0, 1) := by decide +kernel
theorem d3_first_11 : decode c3_first 11 = .ok (.getfield 13, 3) := by decide +kernel
theorem d3_first_14 : decode c3_first 14 = .ok (.iload_n 2, 1) := by decide +kernel
theorem d3_first_15 : decode c3_first 15 = .ok (.iaload, 1) := by decide +kernel
theorem d3_first_16 : decode c3_first 16 = .ok (.aload_n 0, 1) := by decide +kernel
theorem d3_first_17 : decode c3_first 17 = .ok (.getfield 13, 3) := by decide +kernel
theorem d3_first_20 : decode c3_first 20 = .ok (.iload_n 3, 1) := by decide +kernel
theorem d3_first_21 : decode c3_first 21 = .ok (.iconst 1, 1) := by decide +kernel
theorem d3_first_22 : decode c3_first 22 = .ok (.isub, 1) := by decide +kernel
theorem d3_first_23 : decode c3_first 23 = .ok (.iaload, 1) := by decide +kernel
theorem d3_first_24 : decode c3_first 24 = .ok (.invokestatic 37, 3) := by decide +kernel
theorem d3_first_27 : decode c3_first 27 = .ok (.ifCond .eq 9, 3) := by decide +kernel
theorem d3_first_30 : decode c3_first 30 = .ok (.iinc 3 (-1), 3) := by decide +kernel
theorem d3_first_33 : decode c3_first 33 = .ok (.goto (-31), 3) := by decide +kernel
theorem d3_first_36 : decode c3_first 36 = .ok (.iload_n 3, 1) := by decide +kernel
theorem d3_first_37 : decode c3_first 37 = .ok (.ireturn, 1) := by decide +kernel
theorem d3_last_0 : decode c3_last 0 = .ok (.iload_n 2, 1) := by decide +kernel
theorem d3_last_1 : decode c3_last 1 = .ok (.istore_n 3, 1) := by decide +kernel
theorem d3_last_2 : decode c3_last 2 = .ok (.iload_n 3, 1) := by decide +kernel
theorem d3_last_3 : decode c3_last 3 = .ok (.iconst 1, 1) := by decide +kernel
theorem d3_last_4 : decode c3_last 4 = .ok (.iadd, 1) := by decide +kernel
theorem d3_last_5 : decode c3_last 5 = .ok (.bipush 31, 2) := by decide +kernel
theorem d3_last_7 : decode c3_last 7 = .ok (.iload_n 1, 1) := by decide +kernel
theorem d3_last_8 : decode c3_last 8 = .ok (.imul, 1) := by decide +kernel
theorem d3_last_9 : decode c3_last 9 = .ok (.aload_n 0, 1) := by decide +kernel
theorem d3_last_10 : decode c3_last 10 = .ok (.getfield 7, 3) := by decide +kernel
theorem d3_last_13 : decode c3_last 13 = .ok (.iload_n 1, 1) := by decide +kernel
theorem d3_last_14 : decode c3_last 14 = .ok (.iaload, 1) := by decide +kernel
theorem d3_last_15 : decode c3_last 15 = .ok (.iadd, 1) := by decide +kernel
theorem d3_last_16 : decode c3_last 16 = .ok (.if_icmp .ge 29, 3) := by decide +kernel
theorem d3_last_19 : decode c3_last 19 = .ok (.aload_n 0, 1) := by decide +kernel
theorem d3_last_20 : decode c3_last 20 = .ok (.getfield 13, 3) := by decide +kernel
theorem d3_last_23 : decode c3_last 23 = .ok (.iload_n 2, 1) := by decide +kernel
theorem d3_last_24 : decode c3_last 24 = .ok (.iaload, 1) := by decide +kernel
theorem d3_last_25 : decode c3_last 25 = .ok (.aload_n 0, 1) := by decide +kernel
theorem d3_last_26 : decode c3_last 26 = .ok (.getfield 13, 3) := by decide +kernel
theorem d3_last_29 : decode c3_last 29 = .ok (.iload_n 3, 1) := by decide +kernel
theorem d3_last_30 : decode c3_last 30 = .ok (.iconst 1, 1) := by decide +kernel
theorem d3_last_31 : decode c3_last 31 = .ok (.iadd, 1) := by decide +kernel
theorem d3_last_32 : decode c3_last 32 = .ok (.iaload, 1) := by decide +kernel
theorem d3_last_33 : decode c3_last 33 = .ok (.invokestatic 37, 3) := by decide +kernel
theorem d3_last_36 : decode c3_last 36 = .ok (.ifCond .eq 9, 3) := by decide +kernel
theorem d3_last_39 : decode c3_last 39 = .ok (.iinc 3 1, 3) := by decide +kernel
theorem d3_last_42 : decode c3_last 42 = .ok (.goto (-40), 3) := by decide +kernel
theorem d3_last_45 : decode c3_last 45 = .ok (.iload_n 3, 1) := by decide +kernel
theorem d3_last_46 : decode c3_last 46 = .ok (.ireturn, 1) := by decide +kernel
theorem d3_same_0 : decode c3_same 0 = .ok (.aload_n 0, 1) := by decide +kernel
theorem d3_same_1 : decode c3_same 1 = .ok (.iload_n 1, 1) := by decide +kernel
theorem d3_same_2 : decode c3_same 2 = .ok (.iload_n 2, 1) := by decide +kernel
theorem d3_same_3 : decode c3_same 3 = .ok (.invokevirtual 41, 3) := by decide +kernel
theorem d3_same_6 : decode c3_same 6 = .ok (.istore 5, 2) := by decide +kernel
theorem d3_same_8 : decode c3_same 8 = .ok (.aload_n 0, 1) := by decide +kernel
theorem d3_same_9 : decode c3_same 9 = .ok (.iload_n 3, 1) := by decide +kernel
theorem d3_same_10 : decode c3_same 10 = .ok (.iload 4, 2) := by decide +kernel
theorem d3_same_12 : decode c3_same 12 = .ok (.invokevirtual 41, 3) := by decide +kernel
theorem d3_same_15 : decode c3_same 15 = .ok (.istore 6, 2) := by decide +kernel
theorem d3_same_17 : decode c3_same 17 = .ok (.aload_n 0, 1) := by decide +kernel
theorem d3_same_18 : decode c3_same 18 = .ok (.iload_n 1, 1) := by decide +kernel
theorem d3_same_19 : decode c3_same 19 = .ok (.iload_n 2, 1) := by decide +kernel
theorem d3_same_20 : decode c3_same 20 = .ok (.invokevirtual 45, 3) := by decide +kernel
theorem d3_same_23 : decode c3_same 23 = .ok (.iload 5, 2) := by decide +kernel
theorem d3_same_25 : decode c3_same 25 = .ok (.isub, 1) := by decide +kernel
theorem d3_same_26 : decode c3_same 26 = .ok (.istore 7, 2) := by decide +kernel
theorem d3_same_28 : decode c3_same 28 = .ok (.iload 7, 2) := by decide +kernel
theorem d3_same_30 : decode c3_same 30 = .ok (.aload_n 0, 1) := by decide +kernel
theorem d3_same_31 : decode c3_same 31 = .ok (.iload_n 3, 1) := by decide +kernel
theorem d3_same_32 : decode c3_same 32 = .ok (.iload 4, 2) := by decide +kernel
theorem d3_same_34 : decode c3_same 34 = .ok (.invokevirtual 45, 3) := by decide +kernel
theorem d3_same_37 : decode c3_same 37 = .ok (.iload 6, 2) := by decide +kernel
theorem d3_same_39 : decode c3_same 39 = .ok (.isub, 1) := by decide +kernel
theorem d3_same_40 : decode c3_same 40 = .ok (.if_icmp .ne 7, 3) := by decide +kernel
theorem d3_same_43 : decode c3_same 43 = .ok (.iconst 1, 1) := by decide +kernel
theorem d3_same_44 : decode c3_same 44 = .ok (.goto 4, 3) := by decide +kernel
theorem d3_same_47 : decode c3_same 47 = .ok (.iconst 0, 1) := by decide +kernel
theorem d3_same_48 : decode c3_same 48 = .ok (.istore 8, 2) := by decide +kernel
theorem d3_same_50 : decode c3_same 50 = .ok (.iconst 0, 1) := by decide +kernel
theorem d3_same_51 : decode c3_same 51 = .ok (.istore 9, 2) := by decide +kernel
theorem d3_same_53 : decode c3_same 53 = .ok (.iload 9, 2) := by decide +kernel
theorem d3_same_55 : decode c3_same 55 = .ok (.iload 7, 2) := by decide +kernel
theorem d3_same_57 : decode c3_same 57 = .ok (.if_icmp .gt 67, 3) := by decide +kernel
theorem d3_same_60 : decode c3_same 60 = .ok (.iload 8, 2) := by decide +kernel
theorem d3_same_62 : decode c3_same 62 = .ok (.ifCond .eq 62, 3) := by decide +kernel
theorem d3_same_65 : decode c3_same 65 = .ok (.aload_n 0, 1) := by decide +kernel
theorem d3_same_66 : decode c3_same 66 = .ok (.getfield 13, 3) := by decide +kernel
theorem d3_same_69 : decode c3_same 69 = .ok (.iload 5, 2) := by decide +kernel
theorem d3_same_71 : decode c3_same 71 = .ok (.iload 9, 2) := by decide +kernel
theorem d3_same_73 : decode c3_same 73 = .ok (.iadd, 1) := by decide +kernel
theorem d3_same_74 : decode c3_same 74 = .ok (.iaload, 1) := by decide +kernel
theorem d3_same_75 : decode c3_same 75 = .ok (.aload_n 0, 1) := by decide +kernel
theorem d3_same_76 : decode c3_same 76 = .ok (.getfield 13, 3) := by decide +kernel
theorem d3_same_79 : decode c3_same 79 = .ok (.iload 6, 2) := by decide +kernel
theorem d3_same_81 : decode c3_same 81 = .ok (.iload 9, 2) := by decide +kernel
theorem d3_same_83 : decode c3_same 83 = .ok (.iadd, 1) := by decide +kernel
theorem d3_same_84 : decode c3_same 84 = .ok (.iaload, 1) := by decide +kernel
theorem d3_same_85 : decode c3_same 85 = .ok (.if_icmp .ne 30, 3) := by decide +kernel
theorem d3_same_88 : decode c3_same 88 = .ok (.aload_n 0, 1) := by decide +kernel
theorem d3_same_89 : decode c3_same 89 = .ok (.getfield 16, 3) := by decide +kernel
theorem d3_same_92 : decode c3_same 92 = .ok (.iload 5, 2) := by decide +kernel
theorem d3_same_94 : decode c3_same 94 = .ok (.iload 9, 2) := by decide +kernel
theorem d3_same_96 : decode c3_same 96 = .ok (.iadd, 1) := by decide +kernel
theorem d3_same_97 : decode c3_same 97 = .ok (.iaload, 1) := by decide +kernel
theorem d3_same_98 : decode c3_same 98 = .ok (.aload_n 0, 1) := by decide +kernel
theorem d3_same_99 : decode c3_same 99 = .ok (.getfield 16, 3) := by decide +kernel
theorem d3_same_102 : decode c3_same 102 = .ok (.iload 6, 2) := by decide +kernel
theorem d3_same_104 : decode c3_same 104 = .ok (.iload 9, 2) := by decide +kernel
theorem d3_same_106 : decode c3_same 106 = .ok (.iadd, 1) := by decide +kernel
theorem d3_same_107 : decode c3_same 107 = .ok (.iaload, 1) := by decide +kernel
theorem d3_same_108 : decode c3_same 108 = .ok (.if_icmp .ne 7, 3) := by decide +kernel
theorem d3_same_111 : decode c3_same 111 = .ok (.iconst 1, 1) := by decide +kernel
theorem d3_same_112 : decode c3_same 112 = .ok (.goto 4, 3) := by decide +kernel
theorem d3_same_115 : decode c3_same 115 = .ok (.iconst 0, 1) := by decide +kernel
theorem d3_same_116 : decode c3_same 116 = .ok (.istore 8, 2) := by decide +kernel
theorem d3_same_118 : decode c3_same 118 = .ok (.iinc 9 1, 3) := by decide +kernel
theorem d3_same_121 : decode c3_same 121 = .ok (.goto (-68), 3) := by decide +kernel
theorem d3_same_124 : decode c3_same 124 = .ok (.iload 8, 2) := by decide +kernel
theorem d3_same_126 : decode c3_same 126 = .ok (.ireturn, 1) := by decide +kernel
theorem d3_copy_0 : decode c3_copy 0 = .ok (.aload_n 0, 1) := by decide +kernel
theorem d3_copy_1 : decode c3_copy 1 = .ok (.getfield 7, 3) := by decide +kernel
theorem d3_copy_4 : decode c3_copy 4 = .ok (.iload_n 2, 1) := by decide +kernel
theorem d3_copy_5 : decode c3_copy 5 = .ok (.aload_n 0, 1) := by decide +kernel
theorem d3_copy_6 : decode c3_copy 6 = .ok (.getfield 7, 3) := by decide +kernel
theorem d3_copy_9 : decode c3_copy 9 = .ok (.iload_n 1, 1) := by decide +kernel
theorem d3_copy_10 : decode c3_copy 10 = .ok (.iaload, 1) := by decide +kernel
theorem d3_copy_11 : decode c3_copy 11 = .ok (.iastore, 1) := by decide +kernel
theorem d3_copy_12 : decode c3_copy 12 = .ok (.iconst 0, 1) := by decide +kernel
theorem d3_copy_13 : decode c3_copy 13 = .ok (.istore_n 3, 1) := by decide +kernel
theorem d3_copy_14 : decode c3_copy 14 = .ok (.iload_n 3, 1) := by decide +kernel
theorem d3_copy_15 : decode c3_copy 15 = .ok (.aload_n 0, 1) := by decide +kernel
theorem d3_copy_16 : decode c3_copy 16 = .ok (.getfield 7, 3) := by decide +kernel
theorem d3_copy_19 : decode c3_copy 19 = .ok (.iload_n 1, 1) := by decide +kernel
theorem d3_copy_20 : decode c3_copy 20 = .ok (.iaload, 1) := by decide +kernel
theorem d3_copy_21 : decode c3_copy 21 = .ok (.if_icmp .ge 75, 3) := by decide +kernel
theorem d3_copy_24 : decode c3_copy 24 = .ok (.aload_n 0, 1) := by decide +kernel
theorem d3_copy_25 : decode c3_copy 25 = .ok (.getfield 13, 3) := by decide +kernel
theorem d3_copy_28 : decode c3_copy 28 = .ok (.bipush 31, 2) := by decide +kernel
theorem d3_copy_30 : decode c3_copy 30 = .ok (.iload_n 2, 1) := by decide +kernel
theorem d3_copy_31 : decode c3_copy 31 = .ok (.imul, 1) := by decide +kernel
theorem d3_copy_32 : decode c3_copy 32 = .ok (.iload_n 3, 1) := by decide +kernel
theorem d3_copy_33 : decode c3_copy 33 = .ok (.iadd, 1) := by decide +kernel
theorem d3_copy_34 : decode c3_copy 34 = .ok (.aload_n 0, 1) := by decide +kernel
theorem d3_copy_35 : decode c3_copy 35 = .ok (.getfield 13, 3) := by decide +kernel
theorem d3_copy_38 : decode c3_copy 38 = .ok (.bipush 31, 2) := by decide +kernel
theorem d3_copy_40 : decode c3_copy 40 = .ok (.iload_n 1, 1) := by decide +kernel
theorem d3_copy_41 : decode c3_copy 41 = .ok (.imul, 1) := by decide +kernel
theorem d3_copy_42 : decode c3_copy 42 = .ok (.iload_n 3, 1) := by decide +kernel
theorem d3_copy_43 : decode c3_copy 43 = .ok (.iadd, 1) := by decide +kernel
theorem d3_copy_44 : decode c3_copy 44 = .ok (.iaload, 1) := by decide +kernel
theorem d3_copy_45 : decode c3_copy 45 = .ok (.iastore, 1) := by decide +kernel
theorem d3_copy_46 : decode c3_copy 46 = .ok (.aload_n 0, 1) := by decide +kernel
theorem d3_copy_47 : decode c3_copy 47 = .ok (.getfield 16, 3) := by decide +kernel
theorem d3_copy_50 : decode c3_copy 50 = .ok (.bipush 31, 2) := by decide +kernel
theorem d3_copy_52 : decode c3_copy 52 = .ok (.iload_n 2, 1) := by decide +kernel
theorem d3_copy_53 : decode c3_copy 53 = .ok (.imul, 1) := by decide +kernel
theorem d3_copy_54 : decode c3_copy 54 = .ok (.iload_n 3, 1) := by decide +kernel
theorem d3_copy_55 : decode c3_copy 55 = .ok (.iadd, 1) := by decide +kernel
theorem d3_copy_56 : decode c3_copy 56 = .ok (.aload_n 0, 1) := by decide +kernel
theorem d3_copy_57 : decode c3_copy 57 = .ok (.getfield 16, 3) := by decide +kernel
theorem d3_copy_60 : decode c3_copy 60 = .ok (.bipush 31, 2) := by decide +kernel
theorem d3_copy_62 : decode c3_copy 62 = .ok (.iload_n 1, 1) := by decide +kernel
theorem d3_copy_63 : decode c3_copy 63 = .ok (.imul, 1) := by decide +kernel
theorem d3_copy_64 : decode c3_copy 64 = .ok (.iload_n 3, 1) := by decide +kernel
theorem d3_copy_65 : decode c3_copy 65 = .ok (.iadd, 1) := by decide +kernel
theorem d3_copy_66 : decode c3_copy 66 = .ok (.iaload, 1) := by decide +kernel
theorem d3_copy_67 : decode c3_copy 67 = .ok (.iastore, 1) := by decide +kernel
theorem d3_copy_68 : decode c3_copy 68 = .ok (.aload_n 0, 1) := by decide +kernel
theorem d3_copy_69 : decode c3_copy 69 = .ok (.getfield 19, 3) := by decide +kernel
theorem d3_copy_72 : decode c3_copy 72 = .ok (.bipush 31, 2) := by decide +kernel
theorem d3_copy_74 : decode c3_copy 74 = .ok (.iload_n 2, 1) := by decide +kernel
theorem d3_copy_75 : decode c3_copy 75 = .ok (.imul, 1) := by decide +kernel
theorem d3_copy_76 : decode c3_copy 76 = .ok (.iload_n 3, 1) := by decide +kernel
theorem d3_copy_77 : decode c3_copy 77 = .ok (.iadd, 1) := by decide +kernel
theorem d3_copy_78 : decode c3_copy 78 = .ok (.aload_n 0, 1) := by decide +kernel
theorem d3_copy_79 : decode c3_copy 79 = .ok (.getfield 19, 3) := by decide +kernel
theorem d3_copy_82 : decode c3_copy 82 = .ok (.bipush 31, 2) := by decide +kernel
theorem d3_copy_84 : decode c3_copy 84 = .ok (.iload_n 1, 1) := by decide +kernel
theorem d3_copy_85 : decode c3_copy 85 = .ok (.imul, 1) := by decide +kernel
theorem d3_copy_86 : decode c3_copy 86 = .ok (.iload_n 3, 1) := by decide +kernel
theorem d3_copy_87 : decode c3_copy 87 = .ok (.iadd, 1) := by decide +kernel
theorem d3_copy_88 : decode c3_copy 88 = .ok (.iaload, 1) := by decide +kernel
theorem d3_copy_89 : decode c3_copy 89 = .ok (.iastore, 1) := by decide +kernel
theorem d3_copy_90 : decode c3_copy 90 = .ok (.iinc 3 1, 3) := by decide +kernel
theorem d3_copy_93 : decode c3_copy 93 = .ok (.goto (-79), 3) := by decide +kernel
theorem d3_copy_96 : decode c3_copy 96 = .ok (.return_, 1) := by decide +kernel
theorem d3_hasNode_0 : decode c3_hasNode 0 = .ok (.iconst 0, 1) := by decide +kernel
theorem d3_hasNode_1 : decode c3_hasNode 1 = .ok (.istore_n 3, 1) := by decide +kernel
theorem d3_hasNode_2 : decode c3_hasNode 2 = .ok (.bipush 31, 2) := by decide +kernel
theorem d3_hasNode_4 : decode c3_hasNode 4 = .ok (.iload_n 1, 1) := by decide +kernel
theorem d3_hasNode_5 : decode c3_hasNode 5 = .ok (.imul, 1) := by decide +kernel
theorem d3_hasNode_6 : decode c3_hasNode 6 = .ok (.istore 4, 2) := by decide +kernel
theorem d3_hasNode_8 : decode c3_hasNode 8 = .ok (.iload 4, 2) := by decide +kernel
theorem d3_hasNode_10 : decode c3_hasNode 10 = .ok (.bipush 31, 2) := by decide +kernel
theorem d3_hasNode_12 : decode c3_hasNode 12 = .ok (.iload_n 1, 1) := by decide +kernel
theorem d3_hasNode_13 : decode c3_hasNode 13 = .ok (.imul, 1) := by decide +kernel
theorem d3_hasNode_14 : decode c3_hasNode 14 = .ok (.aload_n 0, 1) := by decide +kernel
theorem d3_hasNode_15 : decode c3_hasNode 15 = .ok (.getfield 7, 3) := by decide +kernel
theorem d3_hasNode_18 : decode c3_hasNode 18 = .ok (.iload_n 1, 1) := by decide +kernel
theorem d3_hasNode_19 : decode c3_hasNode 19 = .ok (.iaload, 1) := by decide +kernel
theorem d3_hasNode_20 : decode c3_hasNode 20 = .ok (.iadd, 1) := by decide +kernel
theorem d3_hasNode_21 : decode c3_hasNode 21 = .ok (.if_icmp .ge 30, 3) := by decide +kernel
theorem d3_hasNode_24 : decode c3_hasNode 24 = .ok (.iload_n 3, 1) := by decide +kernel
theorem d3_hasNode_25 : decode c3_hasNode 25 = .ok (.ifCond .ne 14, 3) := by decide +kernel
theorem d3_hasNode_28 : decode c3_hasNode 28 = .ok (.aload_n 0, 1) := by decide +kernel
theorem d3_hasNode_29 : decode c3_hasNode 29 = .ok (.getfield 19, 3) := by decide +kernel
theorem d3_hasNode_32 : decode c3_hasNode 32 = .ok (.iload 4, 2) := by decide +kernel
theorem d3_hasNode_34 : decode c3_hasNode 34 = .ok (.iaload, 1) := by decide +kernel
theorem d3_hasNode_35 : decode c3_hasNode 35 = .ok (.iload_n 2, 1) := by decide +kernel
theorem d3_hasNode_36 : decode c3_hasNode 36 = .ok (.if_icmp .ne 7, 3) := by decide +kernel
theorem d3_hasNode_39 : decode c3_hasNode 39 = .ok (.iconst 1, 1) := by decide +kernel
theorem d3_hasNode_40 : decode c3_hasNode 40 = .ok (.goto 4, 3) := by decide +kernel
theorem d3_hasNode_43 : decode c3_hasNode 43 = .ok (.iconst 0, 1) := by decide +kernel
theorem d3_hasNode_44 : decode c3_hasNode 44 = .ok (.istore_n 3, 1) := by decide +kernel
theorem d3_hasNode_45 : decode c3_hasNode 45 = .ok (.iinc 4 1, 3) := by decide +kernel
theorem d3_hasNode_48 : decode c3_hasNode 48 = .ok (.goto (-40), 3) := by decide +kernel
theorem d3_hasNode_51 : decode c3_hasNode 51 = .ok (.iload_n 3, 1) := by decide +kernel
theorem d3_hasNode_52 : decode c3_hasNode 52 = .ok (.ireturn, 1) := by decide +kernel
theorem d3_inUse_0 : decode c3_inUse 0 = .ok (.aload_n 0, 1) := by decide +kernel
theorem d3_inUse_1 : decode c3_inUse 1 = .ok (.getfield 7, 3) := by decide +kernel
theorem d3_inUse_4 : decode c3_inUse 4 = .ok (.iconst 0, 1) := by decide +kernel
theorem d3_inUse_5 : decode c3_inUse 5 = .ok (.iaload, 1) := by decide +kernel
theorem d3_inUse_6 : decode c3_inUse 6 = .ok (.istore_n 1, 1) := by decide +kernel
theorem d3_inUse_7 : decode c3_inUse 7 = .ok (.iconst 1, 1) := by decide +kernel
theorem d3_inUse_8 : decode c3_inUse 8 = .ok (.istore_n 2, 1) := by decide +kernel
theorem d3_inUse_9 : decode c3_inUse 9 = .ok (.iload_n 2, 1) := by decide +kernel
theorem d3_inUse_10 : decode c3_inUse 10 = .ok (.iconst 3, 1) := by decide +kernel
theorem d3_inUse_11 : decode c3_inUse 11 = .ok (.if_icmp .ge 106, 3) := by decide +kernel
theorem d3_inUse_14 : decode c3_inUse 14 = .ok (.bipush 31, 2) := by decide +kernel
theorem d3_inUse_16 : decode c3_inUse 16 = .ok (.iload_n 2, 1) := by decide +kernel
theorem d3_inUse_17 : decode c3_inUse 17 = .ok (.imul, 1) := by decide +kernel
theorem d3_inUse_18 : decode c3_inUse 18 = .ok (.istore_n 3, 1) := by decide +kernel
theorem d3_inUse_19 : decode c3_inUse 19 = .ok (.iload_n 3, 1) := by decide +kernel
theorem d3_inUse_20 : decode c3_inUse 20 = .ok (.bipush 31, 2) := by decide +kernel
theorem d3_inUse_22 : decode c3_inUse 22 = .ok (.iload_n 2, 1) := by decide +kernel
theorem d3_inUse_23 : decode c3_inUse 23 = .ok (.imul, 1) := by decide +kernel
theorem d3_inUse_24 : decode c3_inUse 24 = .ok (.aload_n 0, 1) := by decide +kernel
theorem d3_inUse_25 : decode c3_inUse 25 = .ok (.getfield 7, 3) := by decide +kernel
theorem d3_inUse_28 : decode c3_inUse 28 = .ok (.iload_n 2, 1) := by decide +kernel
theorem d3_inUse_29 : decode c3_inUse 29 = .ok (.iaload, 1) := by decide +kernel
theorem d3_inUse_30 : decode c3_inUse 30 = .ok (.iadd, 1) := by decide +kernel
theorem d3_inUse_31 : decode c3_inUse 31 = .ok (.if_icmp .ge 80, 3) := by decide +kernel
theorem d3_inUse_34 : decode c3_inUse 34 = .ok (.aload_n 0, 1) := by decide +kernel
theorem d3_inUse_35 : decode c3_inUse 35 = .ok (.getfield 22, 3) := by decide +kernel
theorem d3_inUse_38 : decode c3_inUse 38 = .ok (.iload_n 2, 1) := by decide +kernel
theorem d3_inUse_39 : decode c3_inUse 39 = .ok (.baload, 1) := by decide +kernel
theorem d3_inUse_40 : decode c3_inUse 40 = .ok (.ifCond .eq 71, 3) := by decide +kernel
theorem d3_inUse_43 : decode c3_inUse 43 = .ok (.aload_n 0, 1) := by decide +kernel
theorem d3_inUse_44 : decode c3_inUse 44 = .ok (.iconst 0, 1) := by decide +kernel
theorem d3_inUse_45 : decode c3_inUse 45 = .ok (.aload_n 0, 1) := by decide +kernel
theorem d3_inUse_46 : decode c3_inUse 46 = .ok (.getfield 19, 3) := by decide +kernel
theorem d3_inUse_49 : decode c3_inUse 49 = .ok (.iload_n 3, 1) := by decide +kernel
theorem d3_inUse_50 : decode c3_inUse 50 = .ok (.iaload, 1) := by decide +kernel
theorem d3_inUse_51 : decode c3_inUse 51 = .ok (.invokevirtual 48, 3) := by decide +kernel
theorem d3_inUse_54 : decode c3_inUse 54 = .ok (.ifCond .ne 31, 3) := by decide +kernel
theorem d3_inUse_57 : decode c3_inUse 57 = .ok (.iload_n 2, 1) := by decide +kernel
theorem d3_inUse_58 : decode c3_inUse 58 = .ok (.iconst 2, 1) := by decide +kernel
theorem d3_inUse_59 : decode c3_inUse 59 = .ok (.if_icmp .ne 30, 3) := by decide +kernel
theorem d3_inUse_62 : decode c3_inUse 62 = .ok (.aload_n 0, 1) := by decide +kernel
theorem d3_inUse_63 : decode c3_inUse 63 = .ok (.getfield 22, 3) := by decide +kernel
theorem d3_inUse_66 : decode c3_inUse 66 = .ok (.iconst 1, 1) := by decide +kernel
theorem d3_inUse_67 : decode c3_inUse 67 = .ok (.baload, 1) := by decide +kernel
theorem d3_inUse_68 : decode c3_inUse 68 = .ok (.ifCond .eq 21, 3) := by decide +kernel
theorem d3_inUse_71 : decode c3_inUse 71 = .ok (.aload_n 0, 1) := by decide +kernel
theorem d3_inUse_72 : decode c3_inUse 72 = .ok (.iconst 1, 1) := by decide +kernel
theorem d3_inUse_73 : decode c3_inUse 73 = .ok (.aload_n 0, 1) := by decide +kernel
theorem d3_inUse_74 : decode c3_inUse 74 = .ok (.getfield 19, 3) := by decide +kernel
theorem d3_inUse_77 : decode c3_inUse 77 = .ok (.iload_n 3, 1) := by decide +kernel
theorem d3_inUse_78 : decode c3_inUse 78 = .ok (.iaload, 1) := by decide +kernel
theorem d3_inUse_79 : decode c3_inUse 79 = .ok (.invokevirtual 48, 3) := by decide +kernel
theorem d3_inUse_82 : decode c3_inUse 82 = .ok (.ifCond .eq 7, 3) := by decide +kernel
theorem d3_inUse_85 : decode c3_inUse 85 = .ok (.iconst 1, 1) := by decide +kernel
theorem d3_inUse_86 : decode c3_inUse 86 = .ok (.goto 4, 3) := by decide +kernel
theorem d3_inUse_89 : decode c3_inUse 89 = .ok (.iconst 0, 1) := by decide +kernel
theorem d3_inUse_90 : decode c3_inUse 90 = .ok (.istore 4, 2) := by decide +kernel
theorem d3_inUse_92 : decode c3_inUse 92 = .ok (.iload_n 1, 1) := by decide +kernel
theorem d3_inUse_93 : decode c3_inUse 93 = .ok (.iload 4, 2) := by decide +kernel
theorem d3_inUse_95 : decode c3_inUse 95 = .ok (.ifCond .eq 7, 3) := by decide +kernel
theorem d3_inUse_98 : decode c3_inUse 98 = .ok (.iconst 0, 1) := by decide +kernel
theorem d3_inUse_99 : decode c3_inUse 99 = .ok (.goto 4, 3) := by decide +kernel
theorem d3_inUse_102 : decode c3_inUse 102 = .ok (.iconst 1, 1) := by decide +kernel
theorem d3_inUse_103 : decode c3_inUse 103 = .ok (.iadd, 1) := by decide +kernel
theorem d3_inUse_104 : decode c3_inUse 104 = .ok (.istore_n 1, 1) := by decide +kernel
theorem d3_inUse_105 : decode c3_inUse 105 = .ok (.iinc 3 1, 3) := by decide +kernel
theorem d3_inUse_108 : decode c3_inUse 108 = .ok (.goto (-89), 3) := by decide +kernel
theorem d3_inUse_111 : decode c3_inUse 111 = .ok (.iinc 2 1, 3) := by decide +kernel
theorem d3_inUse_114 : decode c3_inUse 114 = .ok (.goto (-105), 3) := by decide +kernel
theorem d3_inUse_117 : decode c3_inUse 117 = .ok (.iload_n 1, 1) := by decide +kernel
theorem d3_inUse_118 : decode c3_inUse 118 = .ok (.ireturn, 1) := by decide +kernel
theorem d3_settle_0 : decode c3_settle 0 = .ok (.iconst 0, 1) := by decide +kernel
theorem d3_settle_1 : decode c3_settle 1 = .ok (.istore_n 1, 1) := by decide +kernel
theorem d3_settle_2 : decode c3_settle 2 = .ok (.bipush 93, 2) := by decide +kernel
theorem d3_settle_4 : decode c3_settle 4 = .ok (.istore_n 2, 1) := by decide +kernel
theorem d3_settle_5 : decode c3_settle 5 = .ok (.iload_n 2, 1) := by decide +kernel
theorem d3_settle_6 : decode c3_settle 6 = .ok (.bipush 93, 2) := by decide +kernel
theorem d3_settle_8 : decode c3_settle 8 = .ok (.aload_n 0, 1) := by decide +kernel
theorem d3_settle_9 : decode c3_settle 9 = .ok (.getfield 7, 3) := by decide +kernel
theorem d3_settle_12 : decode c3_settle 12 = .ok (.iconst 3, 1) := by decide +kernel
theorem d3_settle_13 : decode c3_settle 13 = .ok (.iaload, 1) := by decide +kernel
theorem d3_settle_14 : decode c3_settle 14 = .ok (.iadd, 1) := by decide +kernel
theorem d3_settle_15 : decode c3_settle 15 = .ok (.if_icmp .ge 99, 3) := by decide +kernel
theorem d3_settle_18 : decode c3_settle 18 = .ok (.aload_n 0, 1) := by decide +kernel
theorem d3_settle_19 : decode c3_settle 19 = .ok (.iconst 0, 1) := by decide +kernel
theorem d3_settle_20 : decode c3_settle 20 = .ok (.aload_n 0, 1) := by decide +kernel
theorem d3_settle_21 : decode c3_settle 21 = .ok (.getfield 13, 3) := by decide +kernel
theorem d3_settle_24 : decode c3_settle 24 = .ok (.iload_n 2, 1) := by decide +kernel
theorem d3_settle_25 : decode c3_settle 25 = .ok (.iaload, 1) := by decide +kernel
theorem d3_settle_26 : decode c3_settle 26 = .ok (.invokevirtual 51, 3) := by decide +kernel
theorem d3_settle_29 : decode c3_settle 29 = .ok (.istore_n 3, 1) := by decide +kernel
theorem d3_settle_30 : decode c3_settle 30 = .ok (.iload_n 3, 1) := by decide +kernel
theorem d3_settle_31 : decode c3_settle 31 = .ok (.ifCond .lt 18, 3) := by decide +kernel
theorem d3_settle_34 : decode c3_settle 34 = .ok (.aload_n 0, 1) := by decide +kernel
theorem d3_settle_35 : decode c3_settle 35 = .ok (.iconst 3, 1) := by decide +kernel
theorem d3_settle_36 : decode c3_settle 36 = .ok (.iload_n 2, 1) := by decide +kernel
theorem d3_settle_37 : decode c3_settle 37 = .ok (.iconst 0, 1) := by decide +kernel
theorem d3_settle_38 : decode c3_settle 38 = .ok (.iload_n 3, 1) := by decide +kernel
theorem d3_settle_39 : decode c3_settle 39 = .ok (.invokevirtual 54, 3) := by decide +kernel
theorem d3_settle_42 : decode c3_settle 42 = .ok (.ifCond .eq 7, 3) := by decide +kernel
theorem d3_settle_45 : decode c3_settle 45 = .ok (.iconst 1, 1) := by decide +kernel
theorem d3_settle_46 : decode c3_settle 46 = .ok (.goto 4, 3) := by decide +kernel
theorem d3_settle_49 : decode c3_settle 49 = .ok (.iconst 0, 1) := by decide +kernel
theorem d3_settle_50 : decode c3_settle 50 = .ok (.istore 4, 2) := by decide +kernel
theorem d3_settle_52 : decode c3_settle 52 = .ok (.iload_n 1, 1) := by decide +kernel
theorem d3_settle_53 : decode c3_settle 53 = .ok (.iload 4, 2) := by decide +kernel
theorem d3_settle_55 : decode c3_settle 55 = .ok (.ifCond .eq 7, 3) := by decide +kernel
theorem d3_settle_58 : decode c3_settle 58 = .ok (.iconst 0, 1) := by decide +kernel
theorem d3_settle_59 : decode c3_settle 59 = .ok (.goto 4, 3) := by decide +kernel
theorem d3_settle_62 : decode c3_settle 62 = .ok (.iconst 1, 1) := by decide +kernel
theorem d3_settle_63 : decode c3_settle 63 = .ok (.iadd, 1) := by decide +kernel
theorem d3_settle_64 : decode c3_settle 64 = .ok (.istore_n 1, 1) := by decide +kernel
theorem d3_settle_65 : decode c3_settle 65 = .ok (.aload_n 0, 1) := by decide +kernel
theorem d3_settle_66 : decode c3_settle 66 = .ok (.dup, 1) := by decide +kernel
theorem d3_settle_67 : decode c3_settle 67 = .ok (.getfield 58, 3) := by decide +kernel
theorem d3_settle_70 : decode c3_settle 70 = .ok (.iload 4, 2) := by decide +kernel
theorem d3_settle_72 : decode c3_settle 72 = .ok (.ifCond .eq 7, 3) := by decide +kernel
theorem d3_settle_75 : decode c3_settle 75 = .ok (.iconst 0, 1) := by decide +kernel
theorem d3_settle_76 : decode c3_settle 76 = .ok (.goto 4, 3) := by decide +kernel
theorem d3_settle_79 : decode c3_settle 79 = .ok (.iconst 1, 1) := by decide +kernel
theorem d3_settle_80 : decode c3_settle 80 = .ok (.iadd, 1) := by decide +kernel
theorem d3_settle_81 : decode c3_settle 81 = .ok (.putfield 58, 3) := by decide +kernel
theorem d3_settle_84 : decode c3_settle 84 = .ok (.aload_n 0, 1) := by decide +kernel
theorem d3_settle_85 : decode c3_settle 85 = .ok (.getfield 19, 3) := by decide +kernel
theorem d3_settle_88 : decode c3_settle 88 = .ok (.iload_n 2, 1) := by decide +kernel
theorem d3_settle_89 : decode c3_settle 89 = .ok (.iload 4, 2) := by decide +kernel
theorem d3_settle_91 : decode c3_settle 91 = .ok (.ifCond .eq 12, 3) := by decide +kernel
theorem d3_settle_94 : decode c3_settle 94 = .ok (.aload_n 0, 1) := by decide +kernel
theorem d3_settle_95 : decode c3_settle 95 = .ok (.getfield 19, 3) := by decide +kernel
theorem d3_settle_98 : decode c3_settle 98 = .ok (.iload_n 3, 1) := by decide +kernel
theorem d3_settle_99 : decode c3_settle 99 = .ok (.iaload, 1) := by decide +kernel
theorem d3_settle_100 : decode c3_settle 100 = .ok (.goto 7, 3) := by decide +kernel
theorem d3_settle_103 : decode c3_settle 103 = .ok (.aload_n 0, 1) := by decide +kernel
theorem d3_settle_104 : decode c3_settle 104 = .ok (.getfield 58, 3) := by decide +kernel
theorem d3_settle_107 : decode c3_settle 107 = .ok (.iastore, 1) := by decide +kernel
theorem d3_settle_108 : decode c3_settle 108 = .ok (.iinc 2 1, 3) := by decide +kernel
theorem d3_settle_111 : decode c3_settle 111 = .ok (.goto (-106), 3) := by decide +kernel
theorem d3_settle_114 : decode c3_settle 114 = .ok (.iload_n 1, 1) := by decide +kernel
theorem d3_settle_115 : decode c3_settle 115 = .ok (.ireturn, 1) := by decide +kernel
theorem d3_change_0 : decode c3_change 0 = .ok (.aload_n 0, 1) := by decide +kernel
theorem d3_change_1 : decode c3_change 1 = .ok (.invokevirtual 61, 3) := by decide +kernel
theorem d3_change_4 : decode c3_change 4 = .ok (.istore_n 1, 1) := by decide +kernel
theorem d3_change_5 : decode c3_change 5 = .ok (.aload_n 0, 1) := by decide +kernel
theorem d3_change_6 : decode c3_change 6 = .ok (.invokevirtual 65, 3) := by decide +kernel
theorem d3_change_9 : decode c3_change 9 = .ok (.iload_n 1, 1) := by decide +kernel
theorem d3_change_10 : decode c3_change 10 = .ok (.iadd, 1) := by decide +kernel
theorem d3_change_11 : decode c3_change 11 = .ok (.bipush 64, 2) := by decide +kernel
theorem d3_change_13 : decode c3_change 13 = .ok (.if_icmp .le 6, 3) := by decide +kernel
theorem d3_change_16 : decode c3_change 16 = .ok (.bipush (-5), 2) := by decide +kernel
theorem d3_change_18 : decode c3_change 18 = .ok (.ireturn, 1) := by decide +kernel
theorem d3_change_19 : decode c3_change 19 = .ok (.iconst 5, 1) := by decide +kernel
theorem d3_change_20 : decode c3_change 20 = .ok (.iload_n 1, 1) := by decide +kernel
theorem d3_change_21 : decode c3_change 21 = .ok (.imul, 1) := by decide +kernel
theorem d3_change_22 : decode c3_change 22 = .ok (.iconst 4, 1) := by decide +kernel
theorem d3_change_23 : decode c3_change 23 = .ok (.iadd, 1) := by decide +kernel
theorem d3_change_24 : decode c3_change 24 = .ok (.istore_n 2, 1) := by decide +kernel
theorem d3_change_25 : decode c3_change 25 = .ok (.aload_n 0, 1) := by decide +kernel
theorem d3_change_26 : decode c3_change 26 = .ok (.getfield 26, 3) := by decide +kernel
theorem d3_change_29 : decode c3_change 29 = .ok (.ifCond .lt 11, 3) := by decide +kernel
theorem d3_change_32 : decode c3_change 32 = .ok (.aload_n 0, 1) := by decide +kernel
theorem d3_change_33 : decode c3_change 33 = .ok (.getfield 26, 3) := by decide +kernel
theorem d3_change_36 : decode c3_change 36 = .ok (.iload_n 2, 1) := by decide +kernel
theorem d3_change_37 : decode c3_change 37 = .ok (.if_icmp .lt 52, 3) := by decide +kernel
theorem d3_change_40 : decode c3_change 40 = .ok (.aload_n 0, 1) := by decide +kernel
theorem d3_change_41 : decode c3_change 41 = .ok (.aload_n 0, 1) := by decide +kernel
theorem d3_change_42 : decode c3_change 42 = .ok (.getfield 26, 3) := by decide +kernel
theorem d3_change_45 : decode c3_change 45 = .ok (.ifCond .ge 7, 3) := by decide +kernel
theorem d3_change_48 : decode c3_change 48 = .ok (.iconst (-1), 1) := by decide +kernel
theorem d3_change_49 : decode c3_change 49 = .ok (.goto 9, 3) := by decide +kernel
theorem d3_change_52 : decode c3_change 52 = .ok (.aload_n 0, 1) := by decide +kernel
theorem d3_change_53 : decode c3_change 53 = .ok (.getfield 26, 3) := by decide +kernel
theorem d3_change_56 : decode c3_change 56 = .ok (.iload_n 2, 1) := by decide +kernel
theorem d3_change_57 : decode c3_change 57 = .ok (.isub, 1) := by decide +kernel
theorem d3_change_58 : decode c3_change 58 = .ok (.putfield 26, 3) := by decide +kernel
theorem d3_change_61 : decode c3_change 61 = .ok (.aload_n 0, 1) := by decide +kernel
theorem d3_change_62 : decode c3_change 62 = .ok (.dup, 1) := by decide +kernel
theorem d3_change_63 : decode c3_change 63 = .ok (.getfield 68, 3) := by decide +kernel
theorem d3_change_66 : decode c3_change 66 = .ok (.iload_n 2, 1) := by decide +kernel
theorem d3_change_67 : decode c3_change 67 = .ok (.iadd, 1) := by decide +kernel
theorem d3_change_68 : decode c3_change 68 = .ok (.putfield 68, 3) := by decide +kernel
theorem d3_change_71 : decode c3_change 71 = .ok (.aload_n 0, 1) := by decide +kernel
theorem d3_change_72 : decode c3_change 72 = .ok (.dup, 1) := by decide +kernel
theorem d3_change_73 : decode c3_change 73 = .ok (.getfield 71, 3) := by decide +kernel
theorem d3_change_76 : decode c3_change 76 = .ok (.iconst 2, 1) := by decide +kernel
theorem d3_change_77 : decode c3_change 77 = .ok (.iadd, 1) := by decide +kernel
theorem d3_change_78 : decode c3_change 78 = .ok (.putfield 71, 3) := by decide +kernel
theorem d3_change_81 : decode c3_change 81 = .ok (.aload_n 0, 1) := by decide +kernel
theorem d3_change_82 : decode c3_change 82 = .ok (.iconst 3, 1) := by decide +kernel
theorem d3_change_83 : decode c3_change 83 = .ok (.iconst 0, 1) := by decide +kernel
theorem d3_change_84 : decode c3_change 84 = .ok (.invokevirtual 74, 3) := by decide +kernel
theorem d3_change_87 : decode c3_change 87 = .ok (.iload_n 1, 1) := by decide +kernel
theorem d3_change_88 : decode c3_change 88 = .ok (.ireturn, 1) := by decide +kernel
theorem d3_change_89 : decode c3_change 89 = .ok (.aload_n 0, 1) := by decide +kernel
theorem d3_change_90 : decode c3_change 90 = .ok (.dup, 1) := by decide +kernel
theorem d3_change_91 : decode c3_change 91 = .ok (.getfield 68, 3) := by decide +kernel
theorem d3_change_94 : decode c3_change 94 = .ok (.aload_n 0, 1) := by decide +kernel
theorem d3_change_95 : decode c3_change 95 = .ok (.getfield 26, 3) := by decide +kernel
theorem d3_change_98 : decode c3_change 98 = .ok (.iadd, 1) := by decide +kernel
theorem d3_change_99 : decode c3_change 99 = .ok (.putfield 68, 3) := by decide +kernel
theorem d3_change_102 : decode c3_change 102 = .ok (.aload_n 0, 1) := by decide +kernel
theorem d3_change_103 : decode c3_change 103 = .ok (.dup, 1) := by decide +kernel
theorem d3_change_104 : decode c3_change 104 = .ok (.getfield 71, 3) := by decide +kernel
theorem d3_change_107 : decode c3_change 107 = .ok (.aload_n 0, 1) := by decide +kernel
theorem d3_change_108 : decode c3_change 108 = .ok (.getfield 26, 3) := by decide +kernel
theorem d3_change_111 : decode c3_change 111 = .ok (.iconst 5, 1) := by decide +kernel
theorem d3_change_112 : decode c3_change 112 = .ok (.iload_n 1, 1) := by decide +kernel
theorem d3_change_113 : decode c3_change 113 = .ok (.imul, 1) := by decide +kernel
theorem d3_change_114 : decode c3_change 114 = .ok (.if_icmp .le 7, 3) := by decide +kernel
theorem d3_change_117 : decode c3_change 117 = .ok (.iconst 1, 1) := by decide +kernel
theorem d3_change_118 : decode c3_change 118 = .ok (.goto 4, 3) := by decide +kernel
theorem d3_change_121 : decode c3_change 121 = .ok (.iconst 0, 1) := by decide +kernel
theorem d3_change_122 : decode c3_change 122 = .ok (.iadd, 1) := by decide +kernel
theorem d3_change_123 : decode c3_change 123 = .ok (.putfield 71, 3) := by decide +kernel
theorem d3_change_126 : decode c3_change 126 = .ok (.aload_n 0, 1) := by decide +kernel
theorem d3_change_127 : decode c3_change 127 = .ok (.aload_n 0, 1) := by decide +kernel
theorem d3_change_128 : decode c3_change 128 = .ok (.getfield 26, 3) := by decide +kernel
theorem d3_change_131 : decode c3_change 131 = .ok (.iconst 5, 1) := by decide +kernel

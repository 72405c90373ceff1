theorem d2_init_0 : decode c2_init 0 = .ok (.aload_n 0, 1) := by decide +kernel
theorem d2_init_1 : decode c2_init 1 = .ok (.invokespecial 1, 3) := by decide +kernel
theorem d2_init_4 : decode c2_init 4 = .ok (.aload_n 0, 1) := by decide +kernel
theorem d2_init_5 : decode c2_init 5 = .ok (.new 7, 3) := by decide +kernel
theorem d2_init_8 : decode c2_init 8 = .ok (.dup, 1) := by decide +kernel
theorem d2_init_9 : decode c2_init 9 = .ok (.invokespecial 9, 3) := by decide +kernel
theorem d2_init_12 : decode c2_init 12 = .ok (.putfield 10, 3) := by decide +kernel
theorem d2_init_15 : decode c2_init 15 = .ok (.aload_n 0, 1) := by decide +kernel
theorem d2_init_16 : decode c2_init 16 = .ok (.new 7, 3) := by decide +kernel
theorem d2_init_19 : decode c2_init 19 = .ok (.dup, 1) := by decide +kernel
theorem d2_init_20 : decode c2_init 20 = .ok (.invokespecial 9, 3) := by decide +kernel
theorem d2_init_23 : decode c2_init 23 = .ok (.putfield 16, 3) := by decide +kernel
theorem d2_init_26 : decode c2_init 26 = .ok (.aload_n 0, 1) := by decide +kernel
theorem d2_init_27 : decode c2_init 27 = .ok (.iconst 2, 1) := by decide +kernel
theorem d2_init_28 : decode c2_init 28 = .ok (.anewarray 7, 3) := by decide +kernel
theorem d2_init_31 : decode c2_init 31 = .ok (.putfield 19, 3) := by decide +kernel
theorem d2_init_34 : decode c2_init 34 = .ok (.iconst 0, 1) := by decide +kernel
theorem d2_init_35 : decode c2_init 35 = .ok (.istore_n 1, 1) := by decide +kernel
theorem d2_init_36 : decode c2_init 36 = .ok (.iload_n 1, 1) := by decide +kernel
theorem d2_init_37 : decode c2_init 37 = .ok (.iconst 2, 1) := by decide +kernel
theorem d2_init_38 : decode c2_init 38 = .ok (.if_icmp .ge 22, 3) := by decide +kernel
theorem d2_init_41 : decode c2_init 41 = .ok (.aload_n 0, 1) := by decide +kernel
theorem d2_init_42 : decode c2_init 42 = .ok (.getfield 19, 3) := by decide +kernel
theorem d2_init_45 : decode c2_init 45 = .ok (.iload_n 1, 1) := by decide +kernel
theorem d2_init_46 : decode c2_init 46 = .ok (.new 7, 3) := by decide +kernel
theorem d2_init_49 : decode c2_init 49 = .ok (.dup, 1) := by decide +kernel
theorem d2_init_50 : decode c2_init 50 = .ok (.invokespecial 9, 3) := by decide +kernel
theorem d2_init_53 : decode c2_init 53 = .ok (.aastore, 1) := by decide +kernel
theorem d2_init_54 : decode c2_init 54 = .ok (.iinc 1 1, 3) := by decide +kernel
theorem d2_init_57 : decode c2_init 57 = .ok (.goto (-21), 3) := by decide +kernel
theorem d2_init_60 : decode c2_init 60 = .ok (.aload_n 0, 1) := by decide +kernel
theorem d2_init_61 : decode c2_init 61 = .ok (.iconst 2, 1) := by decide +kernel
theorem d2_init_62 : decode c2_init 62 = .ok (.newarray .boolean, 2) := by decide +kernel
theorem d2_init_64 : decode c2_init 64 = .ok (.putfield 23, 3) := by decide +kernel
theorem d2_init_67 : decode c2_init 67 = .ok (.aload_n 0, 1) := by decide +kernel
theorem d2_init_68 : decode c2_init 68 = .ok (.new 27, 3) := by decide +kernel
theorem d2_init_71 : decode c2_init 71 = .ok (.dup, 1) := by decide +kernel
theorem d2_init_72 : decode c2_init 72 = .ok (.invokespecial 29, 3) := by decide +kernel
theorem d2_init_75 : decode c2_init 75 = .ok (.putfield 30, 3) := by decide +kernel
theorem d2_init_78 : decode c2_init 78 = .ok (.aload_n 0, 1) := by decide +kernel
theorem d2_init_79 : decode c2_init 79 = .ok (.iconst (-1), 1) := by decide +kernel
theorem d2_init_80 : decode c2_init 80 = .ok (.putfield 34, 3) := by decide +kernel
theorem d2_init_83 : decode c2_init 83 = .ok (.return_, 1) := by decide +kernel
theorem d2_cut_0 : decode c2_cut 0 = .ok (.iload_n 1, 1) := by decide +kernel
theorem d2_cut_1 : decode c2_cut 1 = .ok (.iconst (-1), 1) := by decide +kernel
theorem d2_cut_2 : decode c2_cut 2 = .ok (.if_icmp .ge 5, 3) := by decide +kernel
theorem d2_cut_5 : decode c2_cut 5 = .ok (.iconst 0, 1) := by decide +kernel
theorem d2_cut_6 : decode c2_cut 6 = .ok (.ireturn, 1) := by decide +kernel
theorem d2_cut_7 : decode c2_cut 7 = .ok (.aload_n 0, 1) := by decide +kernel
theorem d2_cut_8 : decode c2_cut 8 = .ok (.iload_n 1, 1) := by decide +kernel
theorem d2_cut_9 : decode c2_cut 9 = .ok (.putfield 34, 3) := by decide +kernel
theorem d2_cut_12 : decode c2_cut 12 = .ok (.iconst 1, 1) := by decide +kernel
theorem d2_cut_13 : decode c2_cut 13 = .ok (.ireturn, 1) := by decide +kernel
theorem d2_put_0 : decode c2_put 0 = .ok (.aload_n 0, 1) := by decide +kernel
theorem d2_put_1 : decode c2_put 1 = .ok (.getfield 38, 3) := by decide +kernel
theorem d2_put_4 : decode c2_put 4 = .ok (.ifCond .eq 5, 3) := by decide +kernel
theorem d2_put_7 : decode c2_put 7 = .ok (.iconst (-1), 1) := by decide +kernel
theorem d2_put_8 : decode c2_put 8 = .ok (.ireturn, 1) := by decide +kernel
theorem d2_put_9 : decode c2_put 9 = .ok (.iload_n 1, 1) := by decide +kernel
theorem d2_put_10 : decode c2_put 10 = .ok (.invokestatic 42, 3) := by decide +kernel
theorem d2_put_13 : decode c2_put 13 = .ok (.ifCond .eq 10, 3) := by decide +kernel
theorem d2_put_16 : decode c2_put 16 = .ok (.iload_n 2, 1) := by decide +kernel
theorem d2_put_17 : decode c2_put 17 = .ok (.invokestatic 46, 3) := by decide +kernel
theorem d2_put_20 : decode c2_put 20 = .ok (.ifCond .ne 6, 3) := by decide +kernel
theorem d2_put_23 : decode c2_put 23 = .ok (.bipush (-3), 2) := by decide +kernel
theorem d2_put_25 : decode c2_put 25 = .ok (.ireturn, 1) := by decide +kernel
theorem d2_put_26 : decode c2_put 26 = .ok (.aload_n 0, 1) := by decide +kernel
theorem d2_put_27 : decode c2_put 27 = .ok (.getfield 10, 3) := by decide +kernel
theorem d2_put_30 : decode c2_put 30 = .ok (.iload_n 1, 1) := by decide +kernel
theorem d2_put_31 : decode c2_put 31 = .ok (.invokevirtual 49, 3) := by decide +kernel
theorem d2_put_34 : decode c2_put 34 = .ok (.istore_n 3, 1) := by decide +kernel
theorem d2_put_35 : decode c2_put 35 = .ok (.iload_n 3, 1) := by decide +kernel
theorem d2_put_36 : decode c2_put 36 = .ok (.iconst (-1), 1) := by decide +kernel
theorem d2_put_37 : decode c2_put 37 = .ok (.if_icmp .eq 18, 3) := by decide +kernel
theorem d2_put_40 : decode c2_put 40 = .ok (.aload_n 0, 1) := by decide +kernel
theorem d2_put_41 : decode c2_put 41 = .ok (.getfield 10, 3) := by decide +kernel
theorem d2_put_44 : decode c2_put 44 = .ok (.getfield 53, 3) := by decide +kernel
theorem d2_put_47 : decode c2_put 47 = .ok (.iload_n 3, 1) := by decide +kernel
theorem d2_put_48 : decode c2_put 48 = .ok (.iaload, 1) := by decide +kernel
theorem d2_put_49 : decode c2_put 49 = .ok (.iload_n 2, 1) := by decide +kernel
theorem d2_put_50 : decode c2_put 50 = .ok (.if_icmp .ne 5, 3) := by decide +kernel
theorem d2_put_53 : decode c2_put 53 = .ok (.iconst 0, 1) := by decide +kernel
theorem d2_put_54 : decode c2_put 54 = .ok (.ireturn, 1) := by decide +kernel
theorem d2_put_55 : decode c2_put 55 = .ok (.iload_n 3, 1) := by decide +kernel
theorem d2_put_56 : decode c2_put 56 = .ok (.iconst (-1), 1) := by decide +kernel
theorem d2_put_57 : decode c2_put 57 = .ok (.if_icmp .ne 18, 3) := by decide +kernel
theorem d2_put_60 : decode c2_put 60 = .ok (.aload_n 0, 1) := by decide +kernel
theorem d2_put_61 : decode c2_put 61 = .ok (.getfield 10, 3) := by decide +kernel
theorem d2_put_64 : decode c2_put 64 = .ok (.getfield 57, 3) := by decide +kernel
theorem d2_put_67 : decode c2_put 67 = .ok (.bipush 30, 2) := by decide +kernel
theorem d2_put_69 : decode c2_put 69 = .ok (.if_icmp .lt 6, 3) := by decide +kernel
theorem d2_put_72 : decode c2_put 72 = .ok (.bipush (-5), 2) := by decide +kernel
theorem d2_put_74 : decode c2_put 74 = .ok (.ireturn, 1) := by decide +kernel
theorem d2_put_75 : decode c2_put 75 = .ok (.aload_n 0, 1) := by decide +kernel
theorem d2_put_76 : decode c2_put 76 = .ok (.getfield 16, 3) := by decide +kernel
theorem d2_put_79 : decode c2_put 79 = .ok (.aload_n 0, 1) := by decide +kernel
theorem d2_put_80 : decode c2_put 80 = .ok (.getfield 10, 3) := by decide +kernel
theorem d2_put_83 : decode c2_put 83 = .ok (.invokevirtual 60, 3) := by decide +kernel
theorem d2_put_86 : decode c2_put 86 = .ok (.iload_n 3, 1) := by decide +kernel
theorem d2_put_87 : decode c2_put 87 = .ok (.iconst (-1), 1) := by decide +kernel
theorem d2_put_88 : decode c2_put 88 = .ok (.if_icmp .ne 15, 3) := by decide +kernel
theorem d2_put_91 : decode c2_put 91 = .ok (.aload_n 0, 1) := by decide +kernel
theorem d2_put_92 : decode c2_put 92 = .ok (.getfield 16, 3) := by decide +kernel
theorem d2_put_95 : decode c2_put 95 = .ok (.iload_n 1, 1) := by decide +kernel
theorem d2_put_96 : decode c2_put 96 = .ok (.iload_n 2, 1) := by decide +kernel
theorem d2_put_97 : decode c2_put 97 = .ok (.invokevirtual 64, 3) := by decide +kernel
theorem d2_put_100 : decode c2_put 100 = .ok (.goto 13, 3) := by decide +kernel
theorem d2_put_103 : decode c2_put 103 = .ok (.aload_n 0, 1) := by decide +kernel
theorem d2_put_104 : decode c2_put 104 = .ok (.getfield 16, 3) := by decide +kernel
theorem d2_put_107 : decode c2_put 107 = .ok (.getfield 53, 3) := by decide +kernel
theorem d2_put_110 : decode c2_put 110 = .ok (.iload_n 3, 1) := by decide +kernel
theorem d2_put_111 : decode c2_put 111 = .ok (.iload_n 2, 1) := by decide +kernel
theorem d2_put_112 : decode c2_put 112 = .ok (.iastore, 1) := by decide +kernel
theorem d2_put_113 : decode c2_put 113 = .ok (.aload_n 0, 1) := by decide +kernel
theorem d2_put_114 : decode c2_put 114 = .ok (.invokevirtual 68, 3) := by decide +kernel
theorem d2_put_117 : decode c2_put 117 = .ok (.ireturn, 1) := by decide +kernel
theorem d2_remove_0 : decode c2_remove 0 = .ok (.aload_n 0, 1) := by decide +kernel
theorem d2_remove_1 : decode c2_remove 1 = .ok (.getfield 38, 3) := by decide +kernel
theorem d2_remove_4 : decode c2_remove 4 = .ok (.ifCond .eq 5, 3) := by decide +kernel
theorem d2_remove_7 : decode c2_remove 7 = .ok (.iconst (-1), 1) := by decide +kernel
theorem d2_remove_8 : decode c2_remove 8 = .ok (.ireturn, 1) := by decide +kernel
theorem d2_remove_9 : decode c2_remove 9 = .ok (.aload_n 0, 1) := by decide +kernel
theorem d2_remove_10 : decode c2_remove 10 = .ok (.getfield 10, 3) := by decide +kernel
theorem d2_remove_13 : decode c2_remove 13 = .ok (.iload_n 1, 1) := by decide +kernel
theorem d2_remove_14 : decode c2_remove 14 = .ok (.invokevirtual 49, 3) := by decide +kernel
theorem d2_remove_17 : decode c2_remove 17 = .ok (.istore_n 2, 1) := by decide +kernel
theorem d2_remove_18 : decode c2_remove 18 = .ok (.iload_n 2, 1) := by decide +kernel
theorem d2_remove_19 : decode c2_remove 19 = .ok (.iconst (-1), 1) := by decide +kernel
theorem d2_remove_20 : decode c2_remove 20 = .ok (.if_icmp .ne 6, 3) := by decide +kernel
theorem d2_remove_23 : decode c2_remove 23 = .ok (.bipush (-4), 2) := by decide +kernel
theorem d2_remove_25 : decode c2_remove 25 = .ok (.ireturn, 1) := by decide +kernel
theorem d2_remove_26 : decode c2_remove 26 = .ok (.aload_n 0, 1) := by decide +kernel
theorem d2_remove_27 : decode c2_remove 27 = .ok (.getfield 16, 3) := by decide +kernel
theorem d2_remove_30 : decode c2_remove 30 = .ok (.aload_n 0, 1) := by decide +kernel
theorem d2_remove_31 : decode c2_remove 31 = .ok (.getfield 10, 3) := by decide +kernel
theorem d2_remove_34 : decode c2_remove 34 = .ok (.invokevirtual 60, 3) := by decide +kernel
theorem d2_remove_37 : decode c2_remove 37 = .ok (.aload_n 0, 1) := by decide +kernel
theorem d2_remove_38 : decode c2_remove 38 = .ok (.getfield 16, 3) := by decide +kernel
theorem d2_remove_41 : decode c2_remove 41 = .ok (.iload_n 2, 1) := by decide +kernel
theorem d2_remove_42 : decode c2_remove 42 = .ok (.invokevirtual 72, 3) := by decide +kernel
theorem d2_remove_45 : decode c2_remove 45 = .ok (.aload_n 0, 1) := by decide +kernel
theorem d2_remove_46 : decode c2_remove 46 = .ok (.invokevirtual 68, 3) := by decide +kernel
theorem d2_remove_49 : decode c2_remove 49 = .ok (.ireturn, 1) := by decide +kernel
theorem d2_get_0 : decode c2_get 0 = .ok (.aload_n 0, 1) := by decide +kernel
theorem d2_get_1 : decode c2_get 1 = .ok (.getfield 38, 3) := by decide +kernel
theorem d2_get_4 : decode c2_get 4 = .ok (.ifCond .eq 7, 3) := by decide +kernel
theorem d2_get_7 : decode c2_get 7 = .ok (.iconst (-1), 1) := by decide +kernel
theorem d2_get_8 : decode c2_get 8 = .ok (.goto 11, 3) := by decide +kernel
theorem d2_get_11 : decode c2_get 11 = .ok (.aload_n 0, 1) := by decide +kernel
theorem d2_get_12 : decode c2_get 12 = .ok (.getfield 10, 3) := by decide +kernel
theorem d2_get_15 : decode c2_get 15 = .ok (.iload_n 1, 1) := by decide +kernel
theorem d2_get_16 : decode c2_get 16 = .ok (.invokevirtual 76, 3) := by decide +kernel
theorem d2_get_19 : decode c2_get 19 = .ok (.ireturn, 1) := by decide +kernel
theorem d2_next_0 : decode c2_next 0 = .ok (.aload_n 0, 1) := by decide +kernel
theorem d2_next_1 : decode c2_next 1 = .ok (.getfield 38, 3) := by decide +kernel
theorem d2_next_4 : decode c2_next 4 = .ok (.ifCond .eq 7, 3) := by decide +kernel
theorem d2_next_7 : decode c2_next 7 = .ok (.iconst (-1), 1) := by decide +kernel
theorem d2_next_8 : decode c2_next 8 = .ok (.goto 11, 3) := by decide +kernel
theorem d2_next_11 : decode c2_next 11 = .ok (.aload_n 0, 1) := by decide +kernel
theorem d2_next_12 : decode c2_next 12 = .ok (.getfield 10, 3) := by decide +kernel
theorem d2_next_15 : decode c2_next 15 = .ok (.iload_n 1, 1) := by decide +kernel
theorem d2_next_16 : decode c2_next 16 = .ok (.invokevirtual 79, 3) := by decide +kernel
theorem d2_next_19 : decode c2_next 19 = .ok (.ireturn, 1) := by decide +kernel
theorem d2_depth_0 : decode c2_depth 0 = .ok (.aload_n 0, 1) := by decide +kernel
theorem d2_depth_1 : decode c2_depth 1 = .ok (.getfield 38, 3) := by decide +kernel
theorem d2_depth_4 : decode c2_depth 4 = .ok (.ifCond .eq 5, 3) := by decide +kernel
theorem d2_depth_7 : decode c2_depth 7 = .ok (.iconst (-1), 1) := by decide +kernel
theorem d2_depth_8 : decode c2_depth 8 = .ok (.ireturn, 1) := by decide +kernel
theorem d2_depth_9 : decode c2_depth 9 = .ok (.aload_n 0, 1) := by decide +kernel
theorem d2_depth_10 : decode c2_depth 10 = .ok (.getfield 10, 3) := by decide +kernel
theorem d2_depth_13 : decode c2_depth 13 = .ok (.iload_n 1, 1) := by decide +kernel
theorem d2_depth_14 : decode c2_depth 14 = .ok (.invokevirtual 49, 3) := by decide +kernel
theorem d2_depth_17 : decode c2_depth 17 = .ok (.istore_n 2, 1) := by decide +kernel
theorem d2_depth_18 : decode c2_depth 18 = .ok (.iload_n 2, 1) := by decide +kernel
theorem d2_depth_19 : decode c2_depth 19 = .ok (.iconst (-1), 1) := by decide +kernel
theorem d2_depth_20 : decode c2_depth 20 = .ok (.if_icmp .ne 8, 3) := by decide +kernel
theorem d2_depth_23 : decode c2_depth 23 = .ok (.bipush (-4), 2) := by decide +kernel
theorem d2_depth_25 : decode c2_depth 25 = .ok (.goto 11, 3) := by decide +kernel
theorem d2_depth_28 : decode c2_depth 28 = .ok (.aload_n 0, 1) := by decide +kernel
theorem d2_depth_29 : decode c2_depth 29 = .ok (.getfield 10, 3) := by decide +kernel
theorem d2_depth_32 : decode c2_depth 32 = .ok (.iload_n 2, 1) := by decide +kernel
theorem d2_depth_33 : decode c2_depth 33 = .ok (.invokevirtual 82, 3) := by decide +kernel
theorem d2_depth_36 : decode c2_depth 36 = .ok (.ireturn, 1) := by decide +kernel
theorem d2_size_0 : decode c2_size 0 = .ok (.aload_n 0, 1) := by decide +kernel
theorem d2_size_1 : decode c2_size 1 = .ok (.getfield 38, 3) := by decide +kernel
theorem d2_size_4 : decode c2_size 4 = .ok (.ifCond .eq 7, 3) := by decide +kernel
theorem d2_size_7 : decode c2_size 7 = .ok (.iconst (-1), 1) := by decide +kernel
theorem d2_size_8 : decode c2_size 8 = .ok (.goto 10, 3) := by decide +kernel
theorem d2_size_11 : decode c2_size 11 = .ok (.aload_n 0, 1) := by decide +kernel
theorem d2_size_12 : decode c2_size 12 = .ok (.getfield 10, 3) := by decide +kernel
theorem d2_size_15 : decode c2_size 15 = .ok (.getfield 57, 3) := by decide +kernel
theorem d2_size_18 : decode c2_size 18 = .ok (.ireturn, 1) := by decide +kernel
theorem d2_nodes_0 : decode c2_nodes 0 = .ok (.aload_n 0, 1) := by decide +kernel
theorem d2_nodes_1 : decode c2_nodes 1 = .ok (.getfield 38, 3) := by decide +kernel
theorem d2_nodes_4 : decode c2_nodes 4 = .ok (.ifCond .eq 5, 3) := by decide +kernel
theorem d2_nodes_7 : decode c2_nodes 7 = .ok (.iconst (-1), 1) := by decide +kernel
theorem d2_nodes_8 : decode c2_nodes 8 = .ok (.ireturn, 1) := by decide +kernel
theorem d2_nodes_9 : decode c2_nodes 9 = .ok (.aload_n 0, 1) := by decide +kernel
theorem d2_nodes_10 : decode c2_nodes 10 = .ok (.invokevirtual 85, 3) := by decide +kernel
theorem d2_nodes_13 : decode c2_nodes 13 = .ok (.aload_n 0, 1) := by decide +kernel
theorem d2_nodes_14 : decode c2_nodes 14 = .ok (.getfield 30, 3) := by decide +kernel
theorem d2_nodes_17 : decode c2_nodes 17 = .ok (.getfield 88, 3) := by decide +kernel
theorem d2_nodes_20 : decode c2_nodes 20 = .ok (.ireturn, 1) := by decide +kernel
theorem d2_hold_0 : decode c2_hold 0 = .ok (.aload_n 0, 1) := by decide +kernel
theorem d2_hold_1 : decode c2_hold 1 = .ok (.getfield 38, 3) := by decide +kernel
theorem d2_hold_4 : decode c2_hold 4 = .ok (.ifCond .ne 19, 3) := by decide +kernel
theorem d2_hold_7 : decode c2_hold 7 = .ok (.iload_n 1, 1) := by decide +kernel
theorem d2_hold_8 : decode c2_hold 8 = .ok (.invokestatic 91, 3) := by decide +kernel
theorem d2_hold_11 : decode c2_hold 11 = .ok (.ifCond .eq 12, 3) := by decide +kernel
theorem d2_hold_14 : decode c2_hold 14 = .ok (.aload_n 0, 1) := by decide +kernel
theorem d2_hold_15 : decode c2_hold 15 = .ok (.getfield 23, 3) := by decide +kernel
theorem d2_hold_18 : decode c2_hold 18 = .ok (.iload_n 1, 1) := by decide +kernel
theorem d2_hold_19 : decode c2_hold 19 = .ok (.baload, 1) := by decide +kernel
theorem d2_hold_20 : decode c2_hold 20 = .ok (.ifCond .eq 5, 3) := by decide +kernel
theorem d2_hold_23 : decode c2_hold 23 = .ok (.iconst 0, 1) := by decide +kernel
theorem d2_hold_24 : decode c2_hold 24 = .ok (.ireturn, 1) := by decide +kernel
theorem d2_hold_25 : decode c2_hold 25 = .ok (.aload_n 0, 1) := by decide +kernel
theorem d2_hold_26 : decode c2_hold 26 = .ok (.getfield 19, 3) := by decide +kernel
theorem d2_hold_29 : decode c2_hold 29 = .ok (.iload_n 1, 1) := by decide +kernel
theorem d2_hold_30 : decode c2_hold 30 = .ok (.aaload, 1) := by decide +kernel
theorem d2_hold_31 : decode c2_hold 31 = .ok (.aload_n 0, 1) := by decide +kernel
theorem d2_hold_32 : decode c2_hold 32 = .ok (.getfield 10, 3) := by decide +kernel
theorem d2_hold_35 : decode c2_hold 35 = .ok (.invokevirtual 60, 3) := by decide +kernel
theorem d2_hold_38 : decode c2_hold 38 = .ok (.aload_n 0, 1) := by decide +kernel
theorem d2_hold_39 : decode c2_hold 39 = .ok (.getfield 23, 3) := by decide +kernel
theorem d2_hold_42 : decode c2_hold 42 = .ok (.iload_n 1, 1) := by decide +kernel
theorem d2_hold_43 : decode c2_hold 43 = .ok (.iconst 1, 1) := by decide +kernel
theorem d2_hold_44 : decode c2_hold 44 = .ok (.bastore, 1) := by decide +kernel
theorem d2_hold_45 : decode c2_hold 45 = .ok (.iconst 1, 1) := by decide +kernel
theorem d2_hold_46 : decode c2_hold 46 = .ok (.ireturn, 1) := by decide +kernel
theorem d2_release_0 : decode c2_release 0 = .ok (.aload_n 0, 1) := by decide +kernel
theorem d2_release_1 : decode c2_release 1 = .ok (.getfield 38, 3) := by decide +kernel
theorem d2_release_4 : decode c2_release 4 = .ok (.ifCond .ne 11, 3) := by decide +kernel
theorem d2_release_7 : decode c2_release 7 = .ok (.aload_n 0, 1) := by decide +kernel
theorem d2_release_8 : decode c2_release 8 = .ok (.iload_n 1, 1) := by decide +kernel
theorem d2_release_9 : decode c2_release 9 = .ok (.invokevirtual 94, 3) := by decide +kernel
theorem d2_release_12 : decode c2_release 12 = .ok (.ifCond .ne 5, 3) := by decide +kernel
theorem d2_release_15 : decode c2_release 15 = .ok (.iconst 0, 1) := by decide +kernel
theorem d2_release_16 : decode c2_release 16 = .ok (.ireturn, 1) := by decide +kernel
theorem d2_release_17 : decode c2_release 17 = .ok (.aload_n 0, 1) := by decide +kernel
theorem d2_release_18 : decode c2_release 18 = .ok (.getfield 23, 3) := by decide +kernel
theorem d2_release_21 : decode c2_release 21 = .ok (.iload_n 1, 1) := by decide +kernel
theorem d2_release_22 : decode c2_release 22 = .ok (.iconst 0, 1) := by decide +kernel
theorem d2_release_23 : decode c2_release 23 = .ok (.bastore, 1) := by decide +kernel
theorem d2_release_24 : decode c2_release 24 = .ok (.iconst 1, 1) := by decide +kernel
theorem d2_release_25 : decode c2_release 25 = .ok (.ireturn, 1) := by decide +kernel
theorem d2_heldGet_0 : decode c2_heldGet 0 = .ok (.aload_n 0, 1) := by decide +kernel
theorem d2_heldGet_1 : decode c2_heldGet 1 = .ok (.getfield 38, 3) := by decide +kernel
theorem d2_heldGet_4 : decode c2_heldGet 4 = .ok (.ifCond .eq 5, 3) := by decide +kernel
theorem d2_heldGet_7 : decode c2_heldGet 7 = .ok (.iconst (-1), 1) := by decide +kernel
theorem d2_heldGet_8 : decode c2_heldGet 8 = .ok (.ireturn, 1) := by decide +kernel
theorem d2_heldGet_9 : decode c2_heldGet 9 = .ok (.aload_n 0, 1) := by decide +kernel
theorem d2_heldGet_10 : decode c2_heldGet 10 = .ok (.iload_n 1, 1) := by decide +kernel
theorem d2_heldGet_11 : decode c2_heldGet 11 = .ok (.invokevirtual 94, 3) := by decide +kernel
theorem d2_heldGet_14 : decode c2_heldGet 14 = .ok (.ifCond .eq 16, 3) := by decide +kernel
theorem d2_heldGet_17 : decode c2_heldGet 17 = .ok (.aload_n 0, 1) := by decide +kernel
theorem d2_heldGet_18 : decode c2_heldGet 18 = .ok (.getfield 19, 3) := by decide +kernel
theorem d2_heldGet_21 : decode c2_heldGet 21 = .ok (.iload_n 1, 1) := by decide +kernel
theorem d2_heldGet_22 : decode c2_heldGet 22 = .ok (.aaload, 1) := by decide +kernel
theorem d2_heldGet_23 : decode c2_heldGet 23 = .ok (.iload_n 2, 1) := by decide +kernel
theorem d2_heldGet_24 : decode c2_heldGet 24 = .ok (.invokevirtual 76, 3) := by decide +kernel
theorem d2_heldGet_27 : decode c2_heldGet 27 = .ok (.goto 5, 3) := by decide +kernel
theorem d2_heldGet_30 : decode c2_heldGet 30 = .ok (.bipush (-3), 2) := by decide +kernel
theorem d2_heldGet_32 : decode c2_heldGet 32 = .ok (.ireturn, 1) := by decide +kernel
theorem d2_heldNext_0 : decode c2_heldNext 0 = .ok (.aload_n 0, 1) := by decide +kernel
theorem d2_heldNext_1 : decode c2_heldNext 1 = .ok (.getfield 38, 3) := by decide +kernel
theorem d2_heldNext_4 : decode c2_heldNext 4 = .ok (.ifCond .eq 5, 3) := by decide +kernel
theorem d2_heldNext_7 : decode c2_heldNext 7 = .ok (.iconst (-1), 1) := by decide +kernel
theorem d2_heldNext_8 : decode c2_heldNext 8 = .ok (.ireturn, 1) := by decide +kernel
theorem d2_heldNext_9 : decode c2_heldNext 9 = .ok (.aload_n 0, 1) := by decide +kernel
theorem d2_heldNext_10 : decode c2_heldNext 10 = .ok (.iload_n 1, 1) := by decide +kernel
theorem d2_heldNext_11 : decode c2_heldNext 11 = .ok (.invokevirtual 94, 3) := by decide +kernel
theorem d2_heldNext_14 : decode c2_heldNext 14 = .ok (.ifCond .eq 16, 3) := by decide +kernel
theorem d2_heldNext_17 : decode c2_heldNext 17 = .ok (.aload_n 0, 1) := by decide +kernel
theorem d2_heldNext_18 : decode c2_heldNext 18 = .ok (.getfield 19, 3) := by decide +kernel
theorem d2_heldNext_21 : decode c2_heldNext 21 = .ok (.iload_n 1, 1) := by decide +kernel
theorem d2_heldNext_22 : decode c2_heldNext 22 = .ok (.aaload, 1) := by decide +kernel
theorem d2_heldNext_23 : decode c2_heldNext 23 = .ok (.iload_n 2, 1) := by decide +kernel
theorem d2_heldNext_24 : decode c2_heldNext 24 = .ok (.invokevirtual 79, 3) := by decide +kernel
theorem d2_heldNext_27 : decode c2_heldNext 27 = .ok (.goto 5, 3) := by decide +kernel
theorem d2_heldNext_30 : decode c2_heldNext 30 = .ok (.bipush (-3), 2) := by decide +kernel
theorem d2_heldNext_32 : decode c2_heldNext 32 = .ok (.ireturn, 1) := by decide +kernel
theorem d2_crash_0 : decode c2_crash 0 = .ok (.aload_n 0, 1) := by decide +kernel
theorem d2_crash_1 : decode c2_crash 1 = .ok (.getfield 38, 3) := by decide +kernel
theorem d2_crash_4 : decode c2_crash 4 = .ok (.ifCond .eq 5, 3) := by decide +kernel
theorem d2_crash_7 : decode c2_crash 7 = .ok (.iconst 0, 1) := by decide +kernel
theorem d2_crash_8 : decode c2_crash 8 = .ok (.ireturn, 1) := by decide +kernel
theorem d2_crash_9 : decode c2_crash 9 = .ok (.aload_n 0, 1) := by decide +kernel
theorem d2_crash_10 : decode c2_crash 10 = .ok (.iconst 1, 1) := by decide +kernel
theorem d2_crash_11 : decode c2_crash 11 = .ok (.putfield 38, 3) := by decide +kernel
theorem d2_crash_14 : decode c2_crash 14 = .ok (.iconst 1, 1) := by decide +kernel
theorem d2_crash_15 : decode c2_crash 15 = .ok (.ireturn, 1) := by decide +kernel
theorem d2_restart_0 : decode c2_restart 0 = .ok (.aload_n 0, 1) := by decide +kernel
theorem d2_restart_1 : decode c2_restart 1 = .ok (.getfield 38, 3) := by decide +kernel
theorem d2_restart_4 : decode c2_restart 4 = .ok (.ifCond .ne 6, 3) := by decide +kernel
theorem d2_restart_7 : decode c2_restart 7 = .ok (.bipush (-3), 2) := by decide +kernel
theorem d2_restart_9 : decode c2_restart 9 = .ok (.ireturn, 1) := by decide +kernel
theorem d2_restart_10 : decode c2_restart 10 = .ok (.aload_n 0, 1) := by decide +kernel
theorem d2_restart_11 : decode c2_restart 11 = .ok (.getfield 97, 3) := by decide +kernel
theorem d2_restart_14 : decode c2_restart 14 = .ok (.ifCond .ne 14, 3) := by decide +kernel
theorem d2_restart_17 : decode c2_restart 17 = .ok (.aload_n 0, 1) := by decide +kernel
theorem d2_restart_18 : decode c2_restart 18 = .ok (.getfield 100, 3) := by decide +kernel
theorem d2_restart_21 : decode c2_restart 21 = .ok (.ifCond .eq 18, 3) := by decide +kernel
theorem d2_restart_24 : decode c2_restart 24 = .ok (.iload_n 1, 1) := by decide +kernel
theorem d2_restart_25 : decode c2_restart 25 = .ok (.ifCond .eq 14, 3) := by decide +kernel
theorem d2_restart_28 : decode c2_restart 28 = .ok (.aload_n 0, 1) := by decide +kernel
theorem d2_restart_29 : decode c2_restart 29 = .ok (.getfield 10, 3) := by decide +kernel
theorem d2_restart_32 : decode c2_restart 32 = .ok (.aload_n 0, 1) := by decide +kernel
theorem d2_restart_33 : decode c2_restart 33 = .ok (.getfield 16, 3) := by decide +kernel
theorem d2_restart_36 : decode c2_restart 36 = .ok (.invokevirtual 60, 3) := by decide +kernel
theorem d2_restart_39 : decode c2_restart 39 = .ok (.aload_n 0, 1) := by decide +kernel
theorem d2_restart_40 : decode c2_restart 40 = .ok (.iconst 0, 1) := by decide +kernel
theorem d2_restart_41 : decode c2_restart 41 = .ok (.putfield 100, 3) := by decide +kernel
theorem d2_restart_44 : decode c2_restart 44 = .ok (.aload_n 0, 1) := by decide +kernel
theorem d2_restart_45 : decode c2_restart 45 = .ok (.iconst 0, 1) := by decide +kernel
theorem d2_restart_46 : decode c2_restart 46 = .ok (.putfield 97, 3) := by decide +kernel
theorem d2_restart_49 : decode c2_restart 49 = .ok (.iconst 0, 1) := by decide +kernel
theorem d2_restart_50 : decode c2_restart 50 = .ok (.istore_n 2, 1) := by decide +kernel
theorem d2_restart_51 : decode c2_restart 51 = .ok (.iload_n 2, 1) := by decide +kernel
theorem d2_restart_52 : decode c2_restart 52 = .ok (.iconst 2, 1) := by decide +kernel
theorem d2_restart_53 : decode c2_restart 53 = .ok (.if_icmp .ge 16, 3) := by decide +kernel
theorem d2_restart_56 : decode c2_restart 56 = .ok (.aload_n 0, 1) := by decide +kernel
theorem d2_restart_57 : decode c2_restart 57 = .ok (.getfield 23, 3) := by decide +kernel
theorem d2_restart_60 : decode c2_restart 60 = .ok (.iload_n 2, 1) := by decide +kernel
theorem d2_restart_61 : decode c2_restart 61 = .ok (.iconst 0, 1) := by decide +kernel
theorem d2_restart_62 : decode c2_restart 62 = .ok (.bastore, 1) := by decide +kernel
theorem d2_restart_63 : decode c2_restart 63 = .ok (.iinc 2 1, 3) := by decide +kernel
theorem d2_restart_66 : decode c2_restart 66 = .ok (.goto (-15), 3) := by decide +kernel
theorem d2_restart_69 : decode c2_restart 69 = .ok (.aload_n 0, 1) := by decide +kernel
theorem d2_restart_70 : decode c2_restart 70 = .ok (.iconst 0, 1) := by decide +kernel
theorem d2_restart_71 : decode c2_restart 71 = .ok (.putfield 38, 3) := by decide +kernel
theorem d2_restart_74 : decode c2_restart 74 = .ok (.aload_n 0, 1) := by decide +kernel
theorem d2_restart_75 : decode c2_restart 75 = .ok (.getfield 10, 3) := by decide +kernel
theorem d2_restart_78 : decode c2_restart 78 = .ok (.getfield 57, 3) := by decide +kernel
theorem d2_restart_81 : decode c2_restart 81 = .ok (.ireturn, 1) := by decide +kernel
theorem d2_events_0 : decode c2_events 0 = .ok (.aload_n 0, 1) := by decide +kernel
theorem d2_events_1 : decode c2_events 1 = .ok (.getfield 103, 3) := by decide +kernel
theorem d2_events_4 : decode c2_events 4 = .ok (.ireturn, 1) := by decide +kernel
theorem d2_fences_0 : decode c2_fences 0 = .ok (.aload_n 0, 1) := by decide +kernel
theorem d2_fences_1 : decode c2_fences 1 = .ok (.getfield 106, 3) := by decide +kernel
theorem d2_fences_4 : decode c2_fences 4 = .ok (.ireturn, 1) := by decide +kernel
theorem d2_isKey_0 : decode c2_isKey 0 = .ok (.iload_n 0, 1) := by decide +kernel
theorem d2_isKey_1 : decode c2_isKey 1 = .ok (.ifCond .lt 14, 3) := by decide +kernel
theorem d2_isKey_4 : decode c2_isKey 4 = .ok (.iload_n 0, 1) := by decide +kernel
theorem d2_isKey_5 : decode c2_isKey 5 = .ok (.sipush 4095, 3) := by decide +kernel
theorem d2_isKey_8 : decode c2_isKey 8 = .ok (.if_icmp .gt 7, 3) := by decide +kernel
theorem d2_isKey_11 : decode c2_isKey 11 = .ok (.iconst 1, 1) := by decide +kernel
theorem d2_isKey_12 : decode c2_isKey 12 = .ok (.goto 4, 3) := by decide +kernel
theorem d2_isKey_15 : decode c2_isKey 15 = .ok (.iconst 0, 1) := by decide +kernel
theorem d2_isKey_16 : decode c2_isKey 16 = .ok (.ireturn, 1) := by decide +kernel
theorem d2_isValue_0 : decode c2_isValue 0 = .ok (.iload_n 0, 1) := by decide +kernel
theorem d2_isValue_1 : decode c2_isValue 1 = .ok (.ifCond .lt 13, 3) := by decide +kernel
theorem d2_isValue_4 : decode c2_isValue 4 = .ok (.iload_n 0, 1) := by decide +kernel
theorem d2_isValue_5 : decode c2_isValue 5 = .ok (.ldc 109, 2) := by decide +kernel
theorem d2_isValue_7 : decode c2_isValue 7 = .ok (.if_icmp .gt 7, 3) := by decide +kernel
theorem d2_isValue_10 : decode c2_isValue 10 = .ok (.iconst 1, 1) := by decide +kernel
theorem d2_isValue_11 : decode c2_isValue 11 = .ok (.goto 4, 3) := by decide +kernel
theorem d2_isValue_14 : decode c2_isValue 14 = .ok (.iconst 0, 1) := by decide +kernel
theorem d2_isValue_15 : decode c2_isValue 15 = .ok (.ireturn, 1) := by decide +kernel
theorem d2_isSlot_0 : decode c2_isSlot 0 = .ok (.iload_n 0, 1) := by decide +kernel
theorem d2_isSlot_1 : decode c2_isSlot 1 = .ok (.ifCond .lt 12, 3) := by decide +kernel
theorem d2_isSlot_4 : decode c2_isSlot 4 = .ok (.iload_n 0, 1) := by decide +kernel
theorem d2_isSlot_5 : decode c2_isSlot 5 = .ok (.iconst 2, 1) := by decide +kernel
theorem d2_isSlot_6 : decode c2_isSlot 6 = .ok (.if_icmp .ge 7, 3) := by decide +kernel
theorem d2_isSlot_9 : decode c2_isSlot 9 = .ok (.iconst 1, 1) := by decide +kernel
theorem d2_isSlot_10 : decode c2_isSlot 10 = .ok (.goto 4, 3) := by decide +kernel
theorem d2_isSlot_13 : decode c2_isSlot 13 = .ok (.iconst 0, 1) := by decide +kernel
theorem d2_isSlot_14 : decode c2_isSlot 14 = .ok (.ireturn, 1) := by decide +kernel
theorem d2_isHeld_0 : decode c2_isHeld 0 = .ok (.iload_n 1, 1) := by decide +kernel
theorem d2_isHeld_1 : decode c2_isHeld 1 = .ok (.invokestatic 91, 3) := by decide +kernel
theorem d2_isHeld_4 : decode c2_isHeld 4 = .ok (.ifCond .eq 16, 3) := by decide +kernel
theorem d2_isHeld_7 : decode c2_isHeld 7 = .ok (.aload_n 0, 1) := by decide +kernel
theorem d2_isHeld_8 : decode c2_isHeld 8 = .ok (.getfield 23, 3) := by decide +kernel
theorem d2_isHeld_11 : decode c2_isHeld 11 = .ok (.iload_n 1, 1) := by decide +kernel
theorem d2_isHeld_12 : decode c2_isHeld 12 = .ok (.baload, 1) := by decide +kernel
theorem d2_isHeld_13 : decode c2_isHeld 13 = .ok (.ifCond .eq 7, 3) := by decide +kernel
theorem d2_isHeld_16 : decode c2_isHeld 16 = .ok (.iconst 1, 1) := by decide +kernel
theorem d2_isHeld_17 : decode c2_isHeld 17 = .ok (.goto 4, 3) := by decide +kernel
theorem d2_isHeld_20 : decode c2_isHeld 20 = .ok (.iconst 0, 1) := by decide +kernel
theorem d2_isHeld_21 : decode c2_isHeld 21 = .ok (.ireturn, 1) := by decide +kernel
theorem d2_findNodesInUse_0 : decode c2_findNodesInUse 0 = .ok (.aload_n 0, 1) := by decide +kernel
theorem d2_findNodesInUse_1 : decode c2_findNodesInUse 1 = .ok (.getfield 30, 3) := by decide +kernel
theorem d2_findNodesInUse_4 : decode c2_findNodesInUse 4 = .ok (.invokevirtual 110, 3) := by decide +kernel
theorem d2_findNodesInUse_7 : decode c2_findNodesInUse 7 = .ok (.aload_n 0, 1) := by decide +kernel
theorem d2_findNodesInUse_8 : decode c2_findNodesInUse 8 = .ok (.getfield 30, 3) := by decide +kernel
theorem d2_findNodesInUse_11 : decode c2_findNodesInUse 11 = .ok (.aload_n 0, 1) := by decide +kernel
theorem d2_findNodesInUse_12 : decode c2_findNodesInUse 12 = .ok (.getfield 10, 3) := by decide +kernel
theorem d2_findNodesInUse_15 : decode c2_findNodesInUse 15 = .ok (.invokevirtual 113, 3) := by decide +kernel
theorem d2_findNodesInUse_18 : decode c2_findNodesInUse 18 = .ok (.iconst 0, 1) := by decide +kernel
theorem d2_findNodesInUse_19 : decode c2_findNodesInUse 19 = .ok (.istore_n 1, 1) := by decide +kernel
theorem d2_findNodesInUse_20 : decode c2_findNodesInUse 20 = .ok (.iload_n 1, 1) := by decide +kernel
theorem d2_findNodesInUse_21 : decode c2_findNodesInUse 21 = .ok (.iconst 2, 1) := by decide +kernel
theorem d2_findNodesInUse_22 : decode c2_findNodesInUse 22 = .ok (.if_icmp .ge 31, 3) := by decide +kernel
theorem d2_findNodesInUse_25 : decode c2_findNodesInUse 25 = .ok (.aload_n 0, 1) := by decide +kernel
theorem d2_findNodesInUse_26 : decode c2_findNodesInUse 26 = .ok (.getfield 23, 3) := by decide +kernel
theorem d2_findNodesInUse_29 : decode c2_findNodesInUse 29 = .ok (.iload_n 1, 1) := by decide +kernel
theorem d2_findNodesInUse_30 : decode c2_findNodesInUse 30 = .ok (.baload, 1) := by decide +kernel
theorem d2_findNodesInUse_31 : decode c2_findNodesInUse 31 = .ok (.ifCond .eq 16, 3) := by decide +kernel
theorem d2_findNodesInUse_34 : decode c2_findNodesInUse 34 = .ok (.aload_n 0, 1) := by decide +kernel
theorem d2_findNodesInUse_35 : decode c2_findNodesInUse 35 = .ok (.getfield 30, 3) := by decide +kernel
theorem d2_findNodesInUse_38 : decode c2_findNodesInUse 38 = .ok (.aload_n 0, 1) := by decide +kernel
theorem d2_findNodesInUse_39 : decode c2_findNodesInUse 39 = .ok (.getfield 19, 3) := by decide +kernel
theorem d2_findNodesInUse_42 : decode c2_findNodesInUse 42 = .ok (.iload_n 1, 1) := by decide +kernel
theorem d2_findNodesInUse_43 : decode c2_findNodesInUse 43 = .ok (.aaload, 1) := by decide +kernel
theorem d2_findNodesInUse_44 : decode c2_findNodesInUse 44 = .ok (.invokevirtual 113, 3) := by decide +kernel
theorem d2_findNodesInUse_47 : decode c2_findNodesInUse 47 = .ok (.iinc 1 1, 3) := by decide +kernel
theorem d2_findNodesInUse_50 : decode c2_findNodesInUse 50 = .ok (.goto (-30), 3) := by decide +kernel
theorem d2_findNodesInUse_53 : decode c2_findNodesInUse 53 = .ok (.return_, 1) := by decide +kernel
theorem d2_changeToDraft_0 : decode c2_changeToDraft 0 = .ok (.aload_n 0, 1) := by decide +kernel
theorem d2_changeToDraft_1 : decode c2_changeToDraft 1 = .ok (.getfield 16, 3) := by decide +kernel
theorem d2_changeToDraft_4 : decode c2_changeToDraft 4 = .ok (.aload_n 0, 1) := by decide +kernel
theorem d2_changeToDraft_5 : decode c2_changeToDraft 5 = .ok (.getfield 10, 3) := by decide +kernel
theorem d2_changeToDraft_8 : decode c2_changeToDraft 8 = .ok (.invokevirtual 116, 3) := by decide +kernel
theorem d2_changeToDraft_11 : decode c2_changeToDraft 11 = .ok (.istore_n 1, 1) := by decide +kernel
theorem d2_changeToDraft_12 : decode c2_changeToDraft 12 = .ok (.aload_n 0, 1) := by decide +kernel
theorem d2_changeToDraft_13 : decode c2_changeToDraft 13 = .ok (.invokevirtual 85, 3) := by decide +kernel
theorem d2_changeToDraft_16 : decode c2_changeToDraft 16 = .ok (.aload_n 0, 1) := by decide +kernel
theorem d2_changeToDraft_17 : decode c2_changeToDraft 17 = .ok (.getfield 30, 3) := by decide +kernel
theorem d2_changeToDraft_20 : decode c2_changeToDraft 20 = .ok (.getfield 88, 3) := by decide +kernel
theorem d2_changeToDraft_23 : decode c2_changeToDraft 23 = .ok (.iload_n 1, 1) := by decide +kernel
theorem d2_changeToDraft_24 : decode c2_changeToDraft 24 = .ok (.iadd, 1) := by decide +kernel
theorem d2_changeToDraft_25 : decode c2_changeToDraft 25 = .ok (.bipush 64, 2) := by decide +kernel
theorem d2_changeToDraft_27 : decode c2_changeToDraft 27 = .ok (.if_icmp .le 6, 3) := by decide +kernel
theorem d2_changeToDraft_30 : decode c2_changeToDraft 30 = .ok (.bipush (-5), 2) := by decide +kernel
theorem d2_changeToDraft_32 : decode c2_changeToDraft 32 = .ok (.ireturn, 1) := by decide +kernel
theorem d2_changeToDraft_33 : decode c2_changeToDraft 33 = .ok (.aload_n 0, 1) := by decide +kernel
theorem d2_changeToDraft_34 : decode c2_changeToDraft 34 = .ok (.getfield 30, 3) := by decide +kernel
theorem d2_changeToDraft_37 : decode c2_changeToDraft 37 = .ok (.aload_n 0, 1) := by decide +kernel
theorem d2_changeToDraft_38 : decode c2_changeToDraft 38 = .ok (.getfield 16, 3) := by decide +kernel
theorem d2_changeToDraft_41 : decode c2_changeToDraft 41 = .ok (.invokevirtual 120, 3) := by decide +kernel
theorem d2_changeToDraft_44 : decode c2_changeToDraft 44 = .ok (.aload_n 0, 1) := by decide +kernel
theorem d2_changeToDraft_45 : decode c2_changeToDraft 45 = .ok (.iload_n 1, 1) := by decide +kernel
theorem d2_changeToDraft_46 : decode c2_changeToDraft 46 = .ok (.invokevirtual 123, 3) := by decide +kernel
theorem d2_changeToDraft_49 : decode c2_changeToDraft 49 = .ok (.ireturn, 1) := by decide +kernel
theorem d2_doEvents_0 : decode c2_doEvents 0 = .ok (.iconst 5, 1) := by decide +kernel
theorem d2_doEvents_1 : decode c2_doEvents 1 = .ok (.iload_n 1, 1) := by decide +kernel
theorem d2_doEvents_2 : decode c2_doEvents 2 = .ok (.imul, 1) := by decide +kernel
theorem d2_doEvents_3 : decode c2_doEvents 3 = .ok (.istore_n 2, 1) := by decide +kernel
theorem d2_doEvents_4 : decode c2_doEvents 4 = .ok (.iload_n 2, 1) := by decide +kernel
theorem d2_doEvents_5 : decode c2_doEvents 5 = .ok (.iconst 4, 1) := by decide +kernel
theorem d2_doEvents_6 : decode c2_doEvents 6 = .ok (.iadd, 1) := by decide +kernel
theorem d2_doEvents_7 : decode c2_doEvents 7 = .ok (.istore_n 3, 1) := by decide +kernel
theorem d2_doEvents_8 : decode c2_doEvents 8 = .ok (.aload_n 0, 1) := by decide +kernel
theorem d2_doEvents_9 : decode c2_doEvents 9 = .ok (.getfield 34, 3) := by decide +kernel
theorem d2_doEvents_12 : decode c2_doEvents 12 = .ok (.iconst (-1), 1) := by decide +kernel
theorem d2_doEvents_13 : decode c2_doEvents 13 = .ok (.if_icmp .eq 15, 3) := by decide +kernel
theorem d2_doEvents_16 : decode c2_doEvents 16 = .ok (.aload_n 0, 1) := by decide +kernel
theorem d2_doEvents_17 : decode c2_doEvents 17 = .ok (.getfield 34, 3) := by decide +kernel
theorem d2_doEvents_20 : decode c2_doEvents 20 = .ok (.iload_n 3, 1) := by decide +kernel
theorem d2_doEvents_21 : decode c2_doEvents 21 = .ok (.if_icmp .ge 7, 3) := by decide +kernel
theorem d2_doEvents_24 : decode c2_doEvents 24 = .ok (.iconst 1, 1) := by decide +kernel
theorem d2_doEvents_25 : decode c2_doEvents 25 = .ok (.goto 4, 3) := by decide +kernel
theorem d2_doEvents_28 : decode c2_doEvents 28 = .ok (.iconst 0, 1) := by decide +kernel
theorem d2_doEvents_29 : decode c2_doEvents 29 = .ok (.istore 4, 2) := by decide +kernel
theorem d2_doEvents_31 : decode c2_doEvents 31 = .ok (.iload 4, 2) := by decide +kernel
theorem d2_doEvents_33 : decode c2_doEvents 33 = .ok (.ifCond .eq 10, 3) := by decide +kernel
theorem d2_doEvents_36 : decode c2_doEvents 36 = .ok (.aload_n 0, 1) := by decide +kernel
theorem d2_doEvents_37 : decode c2_doEvents 37 = .ok (.getfield 34, 3) := by decide +kernel
theorem d2_doEvents_40 : decode c2_doEvents 40 = .ok (.goto 4, 3) := by decide +kernel
theorem d2_doEvents_43 : decode c2_doEvents 43 = .ok (.iload_n 3, 1) := by decide +kernel
theorem d2_doEvents_44 : decode c2_doEvents 44 = .ok (.istore 5, 2) := by decide +kernel
theorem d2_doEvents_46 : decode c2_doEvents 46 = .ok (.aload_n 0, 1) := by decide +kernel
theorem d2_doEvents_47 : decode c2_doEvents 47 = .ok (.dup, 1) := by decide +kernel
theorem d2_doEvents_48 : decode c2_doEvents 48 = .ok (.getfield 103, 3) := by decide +kernel
theorem d2_doEvents_51 : decode c2_doEvents 51 = .ok (.iload 5, 2) := by decide +kernel
theorem d2_doEvents_53 : decode c2_doEvents 53 = .ok (.iadd, 1) := by decide +kernel
theorem d2_doEvents_54 : decode c2_doEvents 54 = .ok (.putfield 103, 3) := by decide +kernel
theorem d2_doEvents_57 : decode c2_doEvents 57 = .ok (.iload 5, 2) := by decide +kernel
theorem d2_doEvents_59 : decode c2_doEvents 59 = .ok (.iload_n 2, 1) := by decide +kernel
theorem d2_doEvents_60 : decode c2_doEvents 60 = .ok (.iconst 1, 1) := by decide +kernel
theorem d2_doEvents_61 : decode c2_doEvents 61 = .ok (.iadd, 1) := by decide +kernel
theorem d2_doEvents_62 : decode c2_doEvents 62 = .ok (.if_icmp .lt 13, 3) := by decide +kernel
theorem d2_doEvents_65 : decode c2_doEvents 65 = .ok (.aload_n 0, 1) := by decide +kernel
theorem d2_doEvents_66 : decode c2_doEvents 66 = .ok (.dup, 1) := by decide +kernel
theorem d2_doEvents_67 : decode c2_doEvents 67 = .ok (.getfield 106, 3) := by decide +kernel
theorem d2_doEvents_70 : decode c2_doEvents 70 = .ok (.iconst 1, 1) := by decide +kernel
theorem d2_doEvents_71 : decode c2_doEvents 71 = .ok (.iadd, 1) := by decide +kernel
theorem d2_doEvents_72 : decode c2_doEvents 72 = .ok (.putfield 106, 3) := by decide +kernel
theorem d2_doEvents_75 : decode c2_doEvents 75 = .ok (.iload 5, 2) := by decide +kernel
theorem d2_doEvents_77 : decode c2_doEvents 77 = .ok (.iload_n 2, 1) := by decide +kernel
theorem d2_doEvents_78 : decode c2_doEvents 78 = .ok (.iconst 4, 1) := by decide +kernel
theorem d2_doEvents_79 : decode c2_doEvents 79 = .ok (.iadd, 1) := by decide +kernel
theorem d2_doEvents_80 : decode c2_doEvents 80 = .ok (.if_icmp .lt 13, 3) := by decide +kernel
theorem d2_doEvents_83 : decode c2_doEvents 83 = .ok (.aload_n 0, 1) := by decide +kernel
theorem d2_doEvents_84 : decode c2_doEvents 84 = .ok (.dup, 1) := by decide +kernel
theorem d2_doEvents_85 : decode c2_doEvents 85 = .ok (.getfield 106, 3) := by decide +kernel
theorem d2_doEvents_88 : decode c2_doEvents 88 = .ok (.iconst 1, 1) := by decide +kernel
theorem d2_doEvents_89 : decode c2_doEvents 89 = .ok (.iadd, 1) := by decide +kernel
theorem d2_doEvents_90 : decode c2_doEvents 90 = .ok (.putfield 106, 3) := by decide +kernel
theorem d2_doEvents_93 : decode c2_doEvents 93 = .ok (.iload 4, 2) := by decide +kernel
theorem d2_doEvents_95 : decode c2_doEvents 95 = .ok (.ifCond .eq 50, 3) := by decide +kernel
theorem d2_doEvents_98 : decode c2_doEvents 98 = .ok (.aload_n 0, 1) := by decide +kernel
theorem d2_doEvents_99 : decode c2_doEvents 99 = .ok (.iload 5, 2) := by decide +kernel
theorem d2_doEvents_101 : decode c2_doEvents 101 = .ok (.iload_n 2, 1) := by decide +kernel
theorem d2_doEvents_102 : decode c2_doEvents 102 = .ok (.iconst 2, 1) := by decide +kernel
theorem d2_doEvents_103 : decode c2_doEvents 103 = .ok (.iadd, 1) := by decide +kernel
theorem d2_doEvents_104 : decode c2_doEvents 104 = .ok (.if_icmp .lt 7, 3) := by decide +kernel
theorem d2_doEvents_107 : decode c2_doEvents 107 = .ok (.iconst 1, 1) := by decide +kernel
theorem d2_doEvents_108 : decode c2_doEvents 108 = .ok (.goto 4, 3) := by decide +kernel
theorem d2_doEvents_111 : decode c2_doEvents 111 = .ok (.iconst 0, 1) := by decide +kernel
theorem d2_doEvents_112 : decode c2_doEvents 112 = .ok (.putfield 100, 3) := by decide +kernel
theorem d2_doEvents_115 : decode c2_doEvents 115 = .ok (.aload_n 0, 1) := by decide +kernel
theorem d2_doEvents_116 : decode c2_doEvents 116 = .ok (.iload 5, 2) := by decide +kernel
theorem d2_doEvents_118 : decode c2_doEvents 118 = .ok (.iload_n 2, 1) := by decide +kernel
theorem d2_doEvents_119 : decode c2_doEvents 119 = .ok (.iconst 3, 1) := by decide +kernel
theorem d2_doEvents_120 : decode c2_doEvents 120 = .ok (.iadd, 1) := by decide +kernel
theorem d2_doEvents_121 : decode c2_doEvents 121 = .ok (.if_icmp .lt 7, 3) := by decide +kernel
theorem d2_doEvents_124 : decode c2_doEvents 124 = .ok (.iconst 1, 1) := by decide +kernel
theorem d2_doEvents_125 : decode c2_doEvents 125 = .ok (.goto 4, 3) := by decide +kernel
theorem d2_doEvents_128 : decode c2_doEvents 128 = .ok (.iconst 0, 1) := by decide +kernel
theorem d2_doEvents_129 : decode c2_doEvents 129 = .ok (.putfield 97, 3) := by decide +kernel
theorem d2_doEvents_132 : decode c2_doEvents 132 = .ok (.aload_n 0, 1) := by decide +kernel
theorem d2_doEvents_133 : decode c2_doEvents 133 = .ok (.iconst (-1), 1) := by decide +kernel
theorem d2_doEvents_134 : decode c2_doEvents 134 = .ok (.putfield 34, 3) := by decide +kernel
theorem d2_doEvents_137 : decode c2_doEvents 137 = .ok (.aload_n 0, 1) := by decide +kernel
theorem d2_doEvents_138 : decode c2_doEvents 138 = .ok (.iconst 1, 1) := by decide +kernel
theorem d2_doEvents_139 : decode c2_doEvents 139 = .ok (.putfield 38, 3) := by decide +kernel
theorem d2_doEvents_142 : decode c2_doEvents 142 = .ok (.bipush (-2), 2) := by decide +kernel
theorem d2_doEvents_144 : decode c2_doEvents 144 = .ok (.ireturn, 1) := by decide +kernel
theorem d2_doEvents_145 : decode c2_doEvents 145 = .ok (.aload_n 0, 1) := by decide +kernel
theorem d2_doEvents_146 : decode c2_doEvents 146 = .ok (.getfield 34, 3) := by decide +kernel
theorem d2_doEvents_149 : decode c2_doEvents 149 = .ok (.iconst (-1), 1) := by decide +kernel
theorem d2_doEvents_150 : decode c2_doEvents 150 = .ok (.if_icmp .eq 14, 3) := by decide +kernel
theorem d2_doEvents_153 : decode c2_doEvents 153 = .ok (.aload_n 0, 1) := by decide +kernel
theorem d2_doEvents_154 : decode c2_doEvents 154 = .ok (.dup, 1) := by decide +kernel
theorem d2_doEvents_155 : decode c2_doEvents 155 = .ok (.getfield 34, 3) := by decide +kernel
theorem d2_doEvents_158 : decode c2_doEvents 158 = .ok (.iload 5, 2) := by decide +kernel
theorem d2_doEvents_160 : decode c2_doEvents 160 = .ok (.isub, 1) := by decide +kernel
theorem d2_doEvents_161 : decode c2_doEvents 161 = .ok (.putfield 34, 3) := by decide +kernel
theorem d2_doEvents_164 : decode c2_doEvents 164 = .ok (.aload_n 0, 1) := by decide +kernel
theorem d2_doEvents_165 : decode c2_doEvents 165 = .ok (.getfield 10, 3) := by decide +kernel
theorem d2_doEvents_168 : decode c2_doEvents 168 = .ok (.aload_n 0, 1) := by decide +kernel
theorem d2_doEvents_169 : decode c2_doEvents 169 = .ok (.getfield 16, 3) := by decide +kernel
theorem d2_doEvents_172 : decode c2_doEvents 172 = .ok (.invokevirtual 60, 3) := by decide +kernel
theorem d2_doEvents_175 : decode c2_doEvents 175 = .ok (.iload_n 1, 1) := by decide +kernel
theorem d2_doEvents_176 : decode c2_doEvents 176 = .ok (.ireturn, 1) := by decide +kernel

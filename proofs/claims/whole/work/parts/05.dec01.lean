theorem d0_init_0 : decode c0_init 0 = .ok (.aload_n 0, 1) := by decide +kernel
theorem d0_init_1 : decode c0_init 1 = .ok (.invokespecial 3, 3) := by decide +kernel
theorem d0_init_4 : decode c0_init 4 = .ok (.aload_n 0, 1) := by decide +kernel
theorem d0_init_5 : decode c0_init 5 = .ok (.bipush 64, 2) := by decide +kernel
theorem d0_init_7 : decode c0_init 7 = .ok (.newarray .boolean, 2) := by decide +kernel
theorem d0_init_9 : decode c0_init 9 = .ok (.putfield 9, 3) := by decide +kernel
theorem d0_init_12 : decode c0_init 12 = .ok (.return_, 1) := by decide +kernel
theorem d0_forgetAll_0 : decode c0_forgetAll 0 = .ok (.iconst 0, 1) := by decide +kernel
theorem d0_forgetAll_1 : decode c0_forgetAll 1 = .ok (.istore_n 1, 1) := by decide +kernel
theorem d0_forgetAll_2 : decode c0_forgetAll 2 = .ok (.iload_n 1, 1) := by decide +kernel
theorem d0_forgetAll_3 : decode c0_forgetAll 3 = .ok (.bipush 64, 2) := by decide +kernel
theorem d0_forgetAll_5 : decode c0_forgetAll 5 = .ok (.if_icmp .ge 16, 3) := by decide +kernel
theorem d0_forgetAll_8 : decode c0_forgetAll 8 = .ok (.aload_n 0, 1) := by decide +kernel
theorem d0_forgetAll_9 : decode c0_forgetAll 9 = .ok (.getfield 9, 3) := by decide +kernel
theorem d0_forgetAll_12 : decode c0_forgetAll 12 = .ok (.iload_n 1, 1) := by decide +kernel
theorem d0_forgetAll_13 : decode c0_forgetAll 13 = .ok (.iconst 0, 1) := by decide +kernel
theorem d0_forgetAll_14 : decode c0_forgetAll 14 = .ok (.bastore, 1) := by decide +kernel
theorem d0_forgetAll_15 : decode c0_forgetAll 15 = .ok (.iinc 1 1, 3) := by decide +kernel
theorem d0_forgetAll_18 : decode c0_forgetAll 18 = .ok (.goto (-16), 3) := by decide +kernel
theorem d0_forgetAll_21 : decode c0_forgetAll 21 = .ok (.aload_n 0, 1) := by decide +kernel
theorem d0_forgetAll_22 : decode c0_forgetAll 22 = .ok (.iconst 0, 1) := by decide +kernel
theorem d0_forgetAll_23 : decode c0_forgetAll 23 = .ok (.putfield 15, 3) := by decide +kernel
theorem d0_forgetAll_26 : decode c0_forgetAll 26 = .ok (.return_, 1) := by decide +kernel
theorem d0_useNodesOf_0 : decode c0_useNodesOf 0 = .ok (.iconst 0, 1) := by decide +kernel
theorem d0_useNodesOf_1 : decode c0_useNodesOf 1 = .ok (.istore_n 2, 1) := by decide +kernel
theorem d0_useNodesOf_2 : decode c0_useNodesOf 2 = .ok (.iload_n 2, 1) := by decide +kernel
theorem d0_useNodesOf_3 : decode c0_useNodesOf 3 = .ok (.aload_n 1, 1) := by decide +kernel
theorem d0_useNodesOf_4 : decode c0_useNodesOf 4 = .ok (.getfield 19, 3) := by decide +kernel
theorem d0_useNodesOf_7 : decode c0_useNodesOf 7 = .ok (.if_icmp .ge 19, 3) := by decide +kernel
theorem d0_useNodesOf_10 : decode c0_useNodesOf 10 = .ok (.aload_n 0, 1) := by decide +kernel
theorem d0_useNodesOf_11 : decode c0_useNodesOf 11 = .ok (.aload_n 1, 1) := by decide +kernel
theorem d0_useNodesOf_12 : decode c0_useNodesOf 12 = .ok (.getfield 24, 3) := by decide +kernel
theorem d0_useNodesOf_15 : decode c0_useNodesOf 15 = .ok (.iload_n 2, 1) := by decide +kernel
theorem d0_useNodesOf_16 : decode c0_useNodesOf 16 = .ok (.iaload, 1) := by decide +kernel
theorem d0_useNodesOf_17 : decode c0_useNodesOf 17 = .ok (.invokevirtual 28, 3) := by decide +kernel
theorem d0_useNodesOf_20 : decode c0_useNodesOf 20 = .ok (.iinc 2 1, 3) := by decide +kernel
theorem d0_useNodesOf_23 : decode c0_useNodesOf 23 = .ok (.goto (-21), 3) := by decide +kernel
theorem d0_useNodesOf_26 : decode c0_useNodesOf 26 = .ok (.return_, 1) := by decide +kernel
theorem d0_useNode_0 : decode c0_useNode 0 = .ok (.iload_n 1, 1) := by decide +kernel
theorem d0_useNode_1 : decode c0_useNode 1 = .ok (.ifCond .lt 35, 3) := by decide +kernel
theorem d0_useNode_4 : decode c0_useNode 4 = .ok (.iload_n 1, 1) := by decide +kernel
theorem d0_useNode_5 : decode c0_useNode 5 = .ok (.bipush 64, 2) := by decide +kernel
theorem d0_useNode_7 : decode c0_useNode 7 = .ok (.if_icmp .ge 29, 3) := by decide +kernel
theorem d0_useNode_10 : decode c0_useNode 10 = .ok (.aload_n 0, 1) := by decide +kernel
theorem d0_useNode_11 : decode c0_useNode 11 = .ok (.getfield 9, 3) := by decide +kernel
theorem d0_useNode_14 : decode c0_useNode 14 = .ok (.iload_n 1, 1) := by decide +kernel
theorem d0_useNode_15 : decode c0_useNode 15 = .ok (.baload, 1) := by decide +kernel
theorem d0_useNode_16 : decode c0_useNode 16 = .ok (.ifCond .ne 20, 3) := by decide +kernel
theorem d0_useNode_19 : decode c0_useNode 19 = .ok (.aload_n 0, 1) := by decide +kernel
theorem d0_useNode_20 : decode c0_useNode 20 = .ok (.getfield 9, 3) := by decide +kernel
theorem d0_useNode_23 : decode c0_useNode 23 = .ok (.iload_n 1, 1) := by decide +kernel
theorem d0_useNode_24 : decode c0_useNode 24 = .ok (.iconst 1, 1) := by decide +kernel
theorem d0_useNode_25 : decode c0_useNode 25 = .ok (.bastore, 1) := by decide +kernel
theorem d0_useNode_26 : decode c0_useNode 26 = .ok (.aload_n 0, 1) := by decide +kernel
theorem d0_useNode_27 : decode c0_useNode 27 = .ok (.dup, 1) := by decide +kernel
theorem d0_useNode_28 : decode c0_useNode 28 = .ok (.getfield 15, 3) := by decide +kernel
theorem d0_useNode_31 : decode c0_useNode 31 = .ok (.iconst 1, 1) := by decide +kernel
theorem d0_useNode_32 : decode c0_useNode 32 = .ok (.iadd, 1) := by decide +kernel
theorem d0_useNode_33 : decode c0_useNode 33 = .ok (.putfield 15, 3) := by decide +kernel
theorem d0_useNode_36 : decode c0_useNode 36 = .ok (.return_, 1) := by decide +kernel
theorem d0_giveNodesTo_0 : decode c0_giveNodesTo 0 = .ok (.iconst 0, 1) := by decide +kernel
theorem d0_giveNodesTo_1 : decode c0_giveNodesTo 1 = .ok (.istore_n 2, 1) := by decide +kernel
theorem d0_giveNodesTo_2 : decode c0_giveNodesTo 2 = .ok (.iconst 0, 1) := by decide +kernel
theorem d0_giveNodesTo_3 : decode c0_giveNodesTo 3 = .ok (.istore_n 3, 1) := by decide +kernel
theorem d0_giveNodesTo_4 : decode c0_giveNodesTo 4 = .ok (.iload_n 3, 1) := by decide +kernel
theorem d0_giveNodesTo_5 : decode c0_giveNodesTo 5 = .ok (.aload_n 1, 1) := by decide +kernel
theorem d0_giveNodesTo_6 : decode c0_giveNodesTo 6 = .ok (.getfield 19, 3) := by decide +kernel
theorem d0_giveNodesTo_9 : decode c0_giveNodesTo 9 = .ok (.if_icmp .ge 52, 3) := by decide +kernel
theorem d0_giveNodesTo_12 : decode c0_giveNodesTo 12 = .ok (.aload_n 1, 1) := by decide +kernel
theorem d0_giveNodesTo_13 : decode c0_giveNodesTo 13 = .ok (.getfield 24, 3) := by decide +kernel
theorem d0_giveNodesTo_16 : decode c0_giveNodesTo 16 = .ok (.iload_n 3, 1) := by decide +kernel
theorem d0_giveNodesTo_17 : decode c0_giveNodesTo 17 = .ok (.iaload, 1) := by decide +kernel
theorem d0_giveNodesTo_18 : decode c0_giveNodesTo 18 = .ok (.iconst (-1), 1) := by decide +kernel
theorem d0_giveNodesTo_19 : decode c0_giveNodesTo 19 = .ok (.if_icmp .ne 36, 3) := by decide +kernel
theorem d0_giveNodesTo_22 : decode c0_giveNodesTo 22 = .ok (.iload_n 2, 1) := by decide +kernel
theorem d0_giveNodesTo_23 : decode c0_giveNodesTo 23 = .ok (.bipush 63, 2) := by decide +kernel
theorem d0_giveNodesTo_25 : decode c0_giveNodesTo 25 = .ok (.if_icmp .ge 18, 3) := by decide +kernel
theorem d0_giveNodesTo_28 : decode c0_giveNodesTo 28 = .ok (.aload_n 0, 1) := by decide +kernel
theorem d0_giveNodesTo_29 : decode c0_giveNodesTo 29 = .ok (.getfield 9, 3) := by decide +kernel
theorem d0_giveNodesTo_32 : decode c0_giveNodesTo 32 = .ok (.iload_n 2, 1) := by decide +kernel
theorem d0_giveNodesTo_33 : decode c0_giveNodesTo 33 = .ok (.baload, 1) := by decide +kernel
theorem d0_giveNodesTo_34 : decode c0_giveNodesTo 34 = .ok (.ifCond .eq 9, 3) := by decide +kernel
theorem d0_giveNodesTo_37 : decode c0_giveNodesTo 37 = .ok (.iinc 2 1, 3) := by decide +kernel
theorem d0_giveNodesTo_40 : decode c0_giveNodesTo 40 = .ok (.goto (-18), 3) := by decide +kernel
theorem d0_giveNodesTo_43 : decode c0_giveNodesTo 43 = .ok (.aload_n 1, 1) := by decide +kernel
theorem d0_giveNodesTo_44 : decode c0_giveNodesTo 44 = .ok (.getfield 24, 3) := by decide +kernel
theorem d0_giveNodesTo_47 : decode c0_giveNodesTo 47 = .ok (.iload_n 3, 1) := by decide +kernel
theorem d0_giveNodesTo_48 : decode c0_giveNodesTo 48 = .ok (.iload_n 2, 1) := by decide +kernel
theorem d0_giveNodesTo_49 : decode c0_giveNodesTo 49 = .ok (.iastore, 1) := by decide +kernel
theorem d0_giveNodesTo_50 : decode c0_giveNodesTo 50 = .ok (.aload_n 0, 1) := by decide +kernel
theorem d0_giveNodesTo_51 : decode c0_giveNodesTo 51 = .ok (.iload_n 2, 1) := by decide +kernel
theorem d0_giveNodesTo_52 : decode c0_giveNodesTo 52 = .ok (.invokevirtual 28, 3) := by decide +kernel
theorem d0_giveNodesTo_55 : decode c0_giveNodesTo 55 = .ok (.iinc 3 1, 3) := by decide +kernel
theorem d0_giveNodesTo_58 : decode c0_giveNodesTo 58 = .ok (.goto (-54), 3) := by decide +kernel
theorem d0_giveNodesTo_61 : decode c0_giveNodesTo 61 = .ok (.return_, 1) := by decide +kernel
theorem d1_init_0 : decode c1_init 0 = .ok (.aload_n 0, 1) := by decide +kernel
theorem d1_init_1 : decode c1_init 1 = .ok (.invokespecial 3, 3) := by decide +kernel
theorem d1_init_4 : decode c1_init 4 = .ok (.aload_n 0, 1) := by decide +kernel
theorem d1_init_5 : decode c1_init 5 = .ok (.bipush 30, 2) := by decide +kernel
theorem d1_init_7 : decode c1_init 7 = .ok (.newarray .int, 2) := by decide +kernel
theorem d1_init_9 : decode c1_init 9 = .ok (.putfield 9, 3) := by decide +kernel
theorem d1_init_12 : decode c1_init 12 = .ok (.aload_n 0, 1) := by decide +kernel
theorem d1_init_13 : decode c1_init 13 = .ok (.bipush 30, 2) := by decide +kernel
theorem d1_init_15 : decode c1_init 15 = .ok (.newarray .int, 2) := by decide +kernel
theorem d1_init_17 : decode c1_init 17 = .ok (.putfield 15, 3) := by decide +kernel
theorem d1_init_20 : decode c1_init 20 = .ok (.aload_n 0, 1) := by decide +kernel
theorem d1_init_21 : decode c1_init 21 = .ok (.bipush 30, 2) := by decide +kernel
theorem d1_init_23 : decode c1_init 23 = .ok (.newarray .int, 2) := by decide +kernel
theorem d1_init_25 : decode c1_init 25 = .ok (.putfield 18, 3) := by decide +kernel
theorem d1_init_28 : decode c1_init 28 = .ok (.aload_n 0, 1) := by decide +kernel
theorem d1_init_29 : decode c1_init 29 = .ok (.bipush 30, 2) := by decide +kernel
theorem d1_init_31 : decode c1_init 31 = .ok (.newarray .int, 2) := by decide +kernel
theorem d1_init_33 : decode c1_init 33 = .ok (.putfield 21, 3) := by decide +kernel
theorem d1_init_36 : decode c1_init 36 = .ok (.return_, 1) := by decide +kernel
theorem d1_copyFrom_0 : decode c1_copyFrom 0 = .ok (.aload_n 0, 1) := by decide +kernel
theorem d1_copyFrom_1 : decode c1_copyFrom 1 = .ok (.aload_n 1, 1) := by decide +kernel
theorem d1_copyFrom_2 : decode c1_copyFrom 2 = .ok (.getfield 24, 3) := by decide +kernel
theorem d1_copyFrom_5 : decode c1_copyFrom 5 = .ok (.putfield 24, 3) := by decide +kernel
theorem d1_copyFrom_8 : decode c1_copyFrom 8 = .ok (.aload_n 1, 1) := by decide +kernel
theorem d1_copyFrom_9 : decode c1_copyFrom 9 = .ok (.getfield 9, 3) := by decide +kernel
theorem d1_copyFrom_12 : decode c1_copyFrom 12 = .ok (.iconst 0, 1) := by decide +kernel
theorem d1_copyFrom_13 : decode c1_copyFrom 13 = .ok (.aload_n 0, 1) := by decide +kernel
theorem d1_copyFrom_14 : decode c1_copyFrom 14 = .ok (.getfield 9, 3) := by decide +kernel
theorem d1_copyFrom_17 : decode c1_copyFrom 17 = .ok (.iconst 0, 1) := by decide +kernel
theorem d1_copyFrom_18 : decode c1_copyFrom 18 = .ok (.aload_n 0, 1) := by decide +kernel
theorem d1_copyFrom_19 : decode c1_copyFrom 19 = .ok (.getfield 24, 3) := by decide +kernel
theorem d1_copyFrom_22 : decode c1_copyFrom 22 = .ok (.invokestatic 28, 3) := by decide +kernel
theorem d1_copyFrom_25 : decode c1_copyFrom 25 = .ok (.aload_n 1, 1) := by decide +kernel
theorem d1_copyFrom_26 : decode c1_copyFrom 26 = .ok (.getfield 15, 3) := by decide +kernel
theorem d1_copyFrom_29 : decode c1_copyFrom 29 = .ok (.iconst 0, 1) := by decide +kernel
theorem d1_copyFrom_30 : decode c1_copyFrom 30 = .ok (.aload_n 0, 1) := by decide +kernel
theorem d1_copyFrom_31 : decode c1_copyFrom 31 = .ok (.getfield 15, 3) := by decide +kernel
theorem d1_copyFrom_34 : decode c1_copyFrom 34 = .ok (.iconst 0, 1) := by decide +kernel
theorem d1_copyFrom_35 : decode c1_copyFrom 35 = .ok (.aload_n 0, 1) := by decide +kernel
theorem d1_copyFrom_36 : decode c1_copyFrom 36 = .ok (.getfield 24, 3) := by decide +kernel
theorem d1_copyFrom_39 : decode c1_copyFrom 39 = .ok (.invokestatic 28, 3) := by decide +kernel
theorem d1_copyFrom_42 : decode c1_copyFrom 42 = .ok (.aload_n 1, 1) := by decide +kernel
theorem d1_copyFrom_43 : decode c1_copyFrom 43 = .ok (.getfield 18, 3) := by decide +kernel
theorem d1_copyFrom_46 : decode c1_copyFrom 46 = .ok (.iconst 0, 1) := by decide +kernel
theorem d1_copyFrom_47 : decode c1_copyFrom 47 = .ok (.aload_n 0, 1) := by decide +kernel
theorem d1_copyFrom_48 : decode c1_copyFrom 48 = .ok (.getfield 18, 3) := by decide +kernel
theorem d1_copyFrom_51 : decode c1_copyFrom 51 = .ok (.iconst 0, 1) := by decide +kernel
theorem d1_copyFrom_52 : decode c1_copyFrom 52 = .ok (.aload_n 0, 1) := by decide +kernel
theorem d1_copyFrom_53 : decode c1_copyFrom 53 = .ok (.getfield 24, 3) := by decide +kernel
theorem d1_copyFrom_56 : decode c1_copyFrom 56 = .ok (.invokestatic 28, 3) := by decide +kernel
theorem d1_copyFrom_59 : decode c1_copyFrom 59 = .ok (.aload_n 1, 1) := by decide +kernel
theorem d1_copyFrom_60 : decode c1_copyFrom 60 = .ok (.getfield 21, 3) := by decide +kernel
theorem d1_copyFrom_63 : decode c1_copyFrom 63 = .ok (.iconst 0, 1) := by decide +kernel
theorem d1_copyFrom_64 : decode c1_copyFrom 64 = .ok (.aload_n 0, 1) := by decide +kernel
theorem d1_copyFrom_65 : decode c1_copyFrom 65 = .ok (.getfield 21, 3) := by decide +kernel
theorem d1_copyFrom_68 : decode c1_copyFrom 68 = .ok (.iconst 0, 1) := by decide +kernel
theorem d1_copyFrom_69 : decode c1_copyFrom 69 = .ok (.aload_n 0, 1) := by decide +kernel
theorem d1_copyFrom_70 : decode c1_copyFrom 70 = .ok (.getfield 24, 3) := by decide +kernel
theorem d1_copyFrom_73 : decode c1_copyFrom 73 = .ok (.invokestatic 28, 3) := by decide +kernel
theorem d1_copyFrom_76 : decode c1_copyFrom 76 = .ok (.return_, 1) := by decide +kernel
theorem d1_indexFrom_0 : decode c1_indexFrom 0 = .ok (.iconst 0, 1) := by decide +kernel
theorem d1_indexFrom_1 : decode c1_indexFrom 1 = .ok (.istore_n 2, 1) := by decide +kernel
theorem d1_indexFrom_2 : decode c1_indexFrom 2 = .ok (.iload_n 2, 1) := by decide +kernel
theorem d1_indexFrom_3 : decode c1_indexFrom 3 = .ok (.aload_n 0, 1) := by decide +kernel
theorem d1_indexFrom_4 : decode c1_indexFrom 4 = .ok (.getfield 24, 3) := by decide +kernel
theorem d1_indexFrom_7 : decode c1_indexFrom 7 = .ok (.if_icmp .ge 19, 3) := by decide +kernel
theorem d1_indexFrom_10 : decode c1_indexFrom 10 = .ok (.aload_n 0, 1) := by decide +kernel
theorem d1_indexFrom_11 : decode c1_indexFrom 11 = .ok (.getfield 9, 3) := by decide +kernel
theorem d1_indexFrom_14 : decode c1_indexFrom 14 = .ok (.iload_n 2, 1) := by decide +kernel
theorem d1_indexFrom_15 : decode c1_indexFrom 15 = .ok (.iaload, 1) := by decide +kernel
theorem d1_indexFrom_16 : decode c1_indexFrom 16 = .ok (.iload_n 1, 1) := by decide +kernel
theorem d1_indexFrom_17 : decode c1_indexFrom 17 = .ok (.if_icmp .ge 9, 3) := by decide +kernel
theorem d1_indexFrom_20 : decode c1_indexFrom 20 = .ok (.iinc 2 1, 3) := by decide +kernel
theorem d1_indexFrom_23 : decode c1_indexFrom 23 = .ok (.goto (-21), 3) := by decide +kernel
theorem d1_indexFrom_26 : decode c1_indexFrom 26 = .ok (.iload_n 2, 1) := by decide +kernel
theorem d1_indexFrom_27 : decode c1_indexFrom 27 = .ok (.ireturn, 1) := by decide +kernel
theorem d1_indexOf_0 : decode c1_indexOf 0 = .ok (.aload_n 0, 1) := by decide +kernel
theorem d1_indexOf_1 : decode c1_indexOf 1 = .ok (.iload_n 1, 1) := by decide +kernel
theorem d1_indexOf_2 : decode c1_indexOf 2 = .ok (.invokevirtual 34, 3) := by decide +kernel
theorem d1_indexOf_5 : decode c1_indexOf 5 = .ok (.istore_n 2, 1) := by decide +kernel
theorem d1_indexOf_6 : decode c1_indexOf 6 = .ok (.iload_n 2, 1) := by decide +kernel
theorem d1_indexOf_7 : decode c1_indexOf 7 = .ok (.aload_n 0, 1) := by decide +kernel
theorem d1_indexOf_8 : decode c1_indexOf 8 = .ok (.getfield 24, 3) := by decide +kernel
theorem d1_indexOf_11 : decode c1_indexOf 11 = .ok (.if_icmp .ge 17, 3) := by decide +kernel
theorem d1_indexOf_14 : decode c1_indexOf 14 = .ok (.aload_n 0, 1) := by decide +kernel
theorem d1_indexOf_15 : decode c1_indexOf 15 = .ok (.getfield 9, 3) := by decide +kernel
theorem d1_indexOf_18 : decode c1_indexOf 18 = .ok (.iload_n 2, 1) := by decide +kernel
theorem d1_indexOf_19 : decode c1_indexOf 19 = .ok (.iaload, 1) := by decide +kernel
theorem d1_indexOf_20 : decode c1_indexOf 20 = .ok (.iload_n 1, 1) := by decide +kernel
theorem d1_indexOf_21 : decode c1_indexOf 21 = .ok (.if_icmp .ne 7, 3) := by decide +kernel
theorem d1_indexOf_24 : decode c1_indexOf 24 = .ok (.iload_n 2, 1) := by decide +kernel
theorem d1_indexOf_25 : decode c1_indexOf 25 = .ok (.goto 4, 3) := by decide +kernel
theorem d1_indexOf_28 : decode c1_indexOf 28 = .ok (.iconst (-1), 1) := by decide +kernel
theorem d1_indexOf_29 : decode c1_indexOf 29 = .ok (.ireturn, 1) := by decide +kernel
theorem d1_valueOf_0 : decode c1_valueOf 0 = .ok (.aload_n 0, 1) := by decide +kernel
theorem d1_valueOf_1 : decode c1_valueOf 1 = .ok (.iload_n 1, 1) := by decide +kernel
theorem d1_valueOf_2 : decode c1_valueOf 2 = .ok (.invokevirtual 38, 3) := by decide +kernel
theorem d1_valueOf_5 : decode c1_valueOf 5 = .ok (.istore_n 2, 1) := by decide +kernel
theorem d1_valueOf_6 : decode c1_valueOf 6 = .ok (.iload_n 2, 1) := by decide +kernel
theorem d1_valueOf_7 : decode c1_valueOf 7 = .ok (.iconst (-1), 1) := by decide +kernel
theorem d1_valueOf_8 : decode c1_valueOf 8 = .ok (.if_icmp .ne 8, 3) := by decide +kernel
theorem d1_valueOf_11 : decode c1_valueOf 11 = .ok (.bipush (-4), 2) := by decide +kernel
theorem d1_valueOf_13 : decode c1_valueOf 13 = .ok (.goto 9, 3) := by decide +kernel
theorem d1_valueOf_16 : decode c1_valueOf 16 = .ok (.aload_n 0, 1) := by decide +kernel
theorem d1_valueOf_17 : decode c1_valueOf 17 = .ok (.getfield 15, 3) := by decide +kernel
theorem d1_valueOf_20 : decode c1_valueOf 20 = .ok (.iload_n 2, 1) := by decide +kernel
theorem d1_valueOf_21 : decode c1_valueOf 21 = .ok (.iaload, 1) := by decide +kernel
theorem d1_valueOf_22 : decode c1_valueOf 22 = .ok (.ireturn, 1) := by decide +kernel
theorem d1_keyFrom_0 : decode c1_keyFrom 0 = .ok (.aload_n 0, 1) := by decide +kernel
theorem d1_keyFrom_1 : decode c1_keyFrom 1 = .ok (.iload_n 1, 1) := by decide +kernel
theorem d1_keyFrom_2 : decode c1_keyFrom 2 = .ok (.invokevirtual 34, 3) := by decide +kernel
theorem d1_keyFrom_5 : decode c1_keyFrom 5 = .ok (.istore_n 2, 1) := by decide +kernel
theorem d1_keyFrom_6 : decode c1_keyFrom 6 = .ok (.iload_n 2, 1) := by decide +kernel
theorem d1_keyFrom_7 : decode c1_keyFrom 7 = .ok (.aload_n 0, 1) := by decide +kernel
theorem d1_keyFrom_8 : decode c1_keyFrom 8 = .ok (.getfield 24, 3) := by decide +kernel
theorem d1_keyFrom_11 : decode c1_keyFrom 11 = .ok (.if_icmp .ge 12, 3) := by decide +kernel
theorem d1_keyFrom_14 : decode c1_keyFrom 14 = .ok (.aload_n 0, 1) := by decide +kernel
theorem d1_keyFrom_15 : decode c1_keyFrom 15 = .ok (.getfield 9, 3) := by decide +kernel
theorem d1_keyFrom_18 : decode c1_keyFrom 18 = .ok (.iload_n 2, 1) := by decide +kernel
theorem d1_keyFrom_19 : decode c1_keyFrom 19 = .ok (.iaload, 1) := by decide +kernel
theorem d1_keyFrom_20 : decode c1_keyFrom 20 = .ok (.goto 5, 3) := by decide +kernel
theorem d1_keyFrom_23 : decode c1_keyFrom 23 = .ok (.bipush (-4), 2) := by decide +kernel
theorem d1_keyFrom_25 : decode c1_keyFrom 25 = .ok (.ireturn, 1) := by decide +kernel
theorem d1_insert_0 : decode c1_insert 0 = .ok (.aload_n 0, 1) := by decide +kernel
theorem d1_insert_1 : decode c1_insert 1 = .ok (.getfield 24, 3) := by decide +kernel
theorem d1_insert_4 : decode c1_insert 4 = .ok (.bipush 30, 2) := by decide +kernel
theorem d1_insert_6 : decode c1_insert 6 = .ok (.if_icmp .lt 4, 3) := by decide +kernel
theorem d1_insert_9 : decode c1_insert 9 = .ok (.return_, 1) := by decide +kernel
theorem d1_insert_10 : decode c1_insert 10 = .ok (.aload_n 0, 1) := by decide +kernel
theorem d1_insert_11 : decode c1_insert 11 = .ok (.iload_n 1, 1) := by decide +kernel
theorem d1_insert_12 : decode c1_insert 12 = .ok (.invokevirtual 34, 3) := by decide +kernel
theorem d1_insert_15 : decode c1_insert 15 = .ok (.istore_n 3, 1) := by decide +kernel
theorem d1_insert_16 : decode c1_insert 16 = .ok (.aload_n 0, 1) := by decide +kernel
theorem d1_insert_17 : decode c1_insert 17 = .ok (.getfield 24, 3) := by decide +kernel
theorem d1_insert_20 : decode c1_insert 20 = .ok (.istore 4, 2) := by decide +kernel
theorem d1_insert_22 : decode c1_insert 22 = .ok (.iload 4, 2) := by decide +kernel
theorem d1_insert_24 : decode c1_insert 24 = .ok (.iload_n 3, 1) := by decide +kernel
theorem d1_insert_25 : decode c1_insert 25 = .ok (.if_icmp .le 19, 3) := by decide +kernel
theorem d1_insert_28 : decode c1_insert 28 = .ok (.aload_n 0, 1) := by decide +kernel
theorem d1_insert_29 : decode c1_insert 29 = .ok (.iload 4, 2) := by decide +kernel
theorem d1_insert_31 : decode c1_insert 31 = .ok (.iconst 1, 1) := by decide +kernel
theorem d1_insert_32 : decode c1_insert 32 = .ok (.isub, 1) := by decide +kernel
theorem d1_insert_33 : decode c1_insert 33 = .ok (.iload 4, 2) := by decide +kernel
theorem d1_insert_35 : decode c1_insert 35 = .ok (.invokevirtual 41, 3) := by decide +kernel
theorem d1_insert_38 : decode c1_insert 38 = .ok (.iinc 4 (-1), 3) := by decide +kernel
theorem d1_insert_41 : decode c1_insert 41 = .ok (.goto (-19), 3) := by decide +kernel
theorem d1_insert_44 : decode c1_insert 44 = .ok (.aload_n 0, 1) := by decide +kernel
theorem d1_insert_45 : decode c1_insert 45 = .ok (.getfield 9, 3) := by decide +kernel
theorem d1_insert_48 : decode c1_insert 48 = .ok (.iload_n 3, 1) := by decide +kernel
theorem d1_insert_49 : decode c1_insert 49 = .ok (.iload_n 1, 1) := by decide +kernel
theorem d1_insert_50 : decode c1_insert 50 = .ok (.iastore, 1) := by decide +kernel
theorem d1_insert_51 : decode c1_insert 51 = .ok (.aload_n 0, 1) := by decide +kernel
theorem d1_insert_52 : decode c1_insert 52 = .ok (.getfield 15, 3) := by decide +kernel
theorem d1_insert_55 : decode c1_insert 55 = .ok (.iload_n 3, 1) := by decide +kernel
theorem d1_insert_56 : decode c1_insert 56 = .ok (.iload_n 2, 1) := by decide +kernel
theorem d1_insert_57 : decode c1_insert 57 = .ok (.iastore, 1) := by decide +kernel
theorem d1_insert_58 : decode c1_insert 58 = .ok (.aload_n 0, 1) := by decide +kernel
theorem d1_insert_59 : decode c1_insert 59 = .ok (.getfield 18, 3) := by decide +kernel
theorem d1_insert_62 : decode c1_insert 62 = .ok (.iload_n 3, 1) := by decide +kernel
theorem d1_insert_63 : decode c1_insert 63 = .ok (.iload_n 1, 1) := by decide +kernel
theorem d1_insert_64 : decode c1_insert 64 = .ok (.invokestatic 45, 3) := by decide +kernel
theorem d1_insert_67 : decode c1_insert 67 = .ok (.iastore, 1) := by decide +kernel
theorem d1_insert_68 : decode c1_insert 68 = .ok (.aload_n 0, 1) := by decide +kernel
theorem d1_insert_69 : decode c1_insert 69 = .ok (.getfield 21, 3) := by decide +kernel
theorem d1_insert_72 : decode c1_insert 72 = .ok (.iload_n 3, 1) := by decide +kernel
theorem d1_insert_73 : decode c1_insert 73 = .ok (.iconst (-1), 1) := by decide +kernel
theorem d1_insert_74 : decode c1_insert 74 = .ok (.iastore, 1) := by decide +kernel
theorem d1_insert_75 : decode c1_insert 75 = .ok (.aload_n 0, 1) := by decide +kernel
theorem d1_insert_76 : decode c1_insert 76 = .ok (.dup, 1) := by decide +kernel
theorem d1_insert_77 : decode c1_insert 77 = .ok (.getfield 24, 3) := by decide +kernel
theorem d1_insert_80 : decode c1_insert 80 = .ok (.iconst 1, 1) := by decide +kernel
theorem d1_insert_81 : decode c1_insert 81 = .ok (.iadd, 1) := by decide +kernel
theorem d1_insert_82 : decode c1_insert 82 = .ok (.putfield 24, 3) := by decide +kernel
theorem d1_insert_85 : decode c1_insert 85 = .ok (.return_, 1) := by decide +kernel
theorem d1_removeAt_0 : decode c1_removeAt 0 = .ok (.iload_n 1, 1) := by decide +kernel
theorem d1_removeAt_1 : decode c1_removeAt 1 = .ok (.istore_n 2, 1) := by decide +kernel
theorem d1_removeAt_2 : decode c1_removeAt 2 = .ok (.iload_n 2, 1) := by decide +kernel
theorem d1_removeAt_3 : decode c1_removeAt 3 = .ok (.aload_n 0, 1) := by decide +kernel
theorem d1_removeAt_4 : decode c1_removeAt 4 = .ok (.getfield 24, 3) := by decide +kernel
theorem d1_removeAt_7 : decode c1_removeAt 7 = .ok (.iconst 1, 1) := by decide +kernel
theorem d1_removeAt_8 : decode c1_removeAt 8 = .ok (.isub, 1) := by decide +kernel
theorem d1_removeAt_9 : decode c1_removeAt 9 = .ok (.if_icmp .ge 17, 3) := by decide +kernel
theorem d1_removeAt_12 : decode c1_removeAt 12 = .ok (.aload_n 0, 1) := by decide +kernel
theorem d1_removeAt_13 : decode c1_removeAt 13 = .ok (.iload_n 2, 1) := by decide +kernel
theorem d1_removeAt_14 : decode c1_removeAt 14 = .ok (.iconst 1, 1) := by decide +kernel
theorem d1_removeAt_15 : decode c1_removeAt 15 = .ok (.iadd, 1) := by decide +kernel
theorem d1_removeAt_16 : decode c1_removeAt 16 = .ok (.iload_n 2, 1) := by decide +kernel
theorem d1_removeAt_17 : decode c1_removeAt 17 = .ok (.invokevirtual 41, 3) := by decide +kernel
theorem d1_removeAt_20 : decode c1_removeAt 20 = .ok (.iinc 2 1, 3) := by decide +kernel
theorem d1_removeAt_23 : decode c1_removeAt 23 = .ok (.goto (-21), 3) := by decide +kernel
theorem d1_removeAt_26 : decode c1_removeAt 26 = .ok (.aload_n 0, 1) := by decide +kernel
theorem d1_removeAt_27 : decode c1_removeAt 27 = .ok (.dup, 1) := by decide +kernel
theorem d1_removeAt_28 : decode c1_removeAt 28 = .ok (.getfield 24, 3) := by decide +kernel
theorem d1_removeAt_31 : decode c1_removeAt 31 = .ok (.iconst 1, 1) := by decide +kernel
theorem d1_removeAt_32 : decode c1_removeAt 32 = .ok (.isub, 1) := by decide +kernel
theorem d1_removeAt_33 : decode c1_removeAt 33 = .ok (.putfield 24, 3) := by decide +kernel
theorem d1_removeAt_36 : decode c1_removeAt 36 = .ok (.return_, 1) := by decide +kernel
theorem d1_moveEntry_0 : decode c1_moveEntry 0 = .ok (.aload_n 0, 1) := by decide +kernel
theorem d1_moveEntry_1 : decode c1_moveEntry 1 = .ok (.getfield 9, 3) := by decide +kernel
theorem d1_moveEntry_4 : decode c1_moveEntry 4 = .ok (.iload_n 2, 1) := by decide +kernel
theorem d1_moveEntry_5 : decode c1_moveEntry 5 = .ok (.aload_n 0, 1) := by decide +kernel
theorem d1_moveEntry_6 : decode c1_moveEntry 6 = .ok (.getfield 9, 3) := by decide +kernel
theorem d1_moveEntry_9 : decode c1_moveEntry 9 = .ok (.iload_n 1, 1) := by decide +kernel
theorem d1_moveEntry_10 : decode c1_moveEntry 10 = .ok (.iaload, 1) := by decide +kernel
theorem d1_moveEntry_11 : decode c1_moveEntry 11 = .ok (.iastore, 1) := by decide +kernel
theorem d1_moveEntry_12 : decode c1_moveEntry 12 = .ok (.aload_n 0, 1) := by decide +kernel
theorem d1_moveEntry_13 : decode c1_moveEntry 13 = .ok (.getfield 15, 3) := by decide +kernel
theorem d1_moveEntry_16 : decode c1_moveEntry 16 = .ok (.iload_n 2, 1) := by decide +kernel
theorem d1_moveEntry_17 : decode c1_moveEntry 17 = .ok (.aload_n 0, 1) := by decide +kernel
theorem d1_moveEntry_18 : decode c1_moveEntry 18 = .ok (.getfield 15, 3) := by decide +kernel
theorem d1_moveEntry_21 : decode c1_moveEntry 21 = .ok (.iload_n 1, 1) := by decide +kernel
theorem d1_moveEntry_22 : decode c1_moveEntry 22 = .ok (.iaload, 1) := by decide +kernel
theorem d1_moveEntry_23 : decode c1_moveEntry 23 = .ok (.iastore, 1) := by decide +kernel
theorem d1_moveEntry_24 : decode c1_moveEntry 24 = .ok (.aload_n 0, 1) := by decide +kernel
theorem d1_moveEntry_25 : decode c1_moveEntry 25 = .ok (.getfield 18, 3) := by decide +kernel
theorem d1_moveEntry_28 : decode c1_moveEntry 28 = .ok (.iload_n 2, 1) := by decide +kernel
theorem d1_moveEntry_29 : decode c1_moveEntry 29 = .ok (.aload_n 0, 1) := by decide +kernel
theorem d1_moveEntry_30 : decode c1_moveEntry 30 = .ok (.getfield 18, 3) := by decide +kernel
theorem d1_moveEntry_33 : decode c1_moveEntry 33 = .ok (.iload_n 1, 1) := by decide +kernel
theorem d1_moveEntry_34 : decode c1_moveEntry 34 = .ok (.iaload, 1) := by decide +kernel
theorem d1_moveEntry_35 : decode c1_moveEntry 35 = .ok (.iastore, 1) := by decide +kernel
theorem d1_moveEntry_36 : decode c1_moveEntry 36 = .ok (.aload_n 0, 1) := by decide +kernel
theorem d1_moveEntry_37 : decode c1_moveEntry 37 = .ok (.getfield 21, 3) := by decide +kernel
theorem d1_moveEntry_40 : decode c1_moveEntry 40 = .ok (.iload_n 2, 1) := by decide +kernel
theorem d1_moveEntry_41 : decode c1_moveEntry 41 = .ok (.aload_n 0, 1) := by decide +kernel
theorem d1_moveEntry_42 : decode c1_moveEntry 42 = .ok (.getfield 21, 3) := by decide +kernel
theorem d1_moveEntry_45 : decode c1_moveEntry 45 = .ok (.iload_n 1, 1) := by decide +kernel
theorem d1_moveEntry_46 : decode c1_moveEntry 46 = .ok (.iaload, 1) := by decide +kernel
theorem d1_moveEntry_47 : decode c1_moveEntry 47 = .ok (.iastore, 1) := by decide +kernel
theorem d1_moveEntry_48 : decode c1_moveEntry 48 = .ok (.return_, 1) := by decide +kernel
theorem d1_rankOf_0 : decode c1_rankOf 0 = .ok (.iload_n 0, 1) := by decide +kernel
theorem d1_rankOf_1 : decode c1_rankOf 1 = .ok (.iconst 1, 1) := by decide +kernel
theorem d1_rankOf_2 : decode c1_rankOf 2 = .ok (.iadd, 1) := by decide +kernel
theorem d1_rankOf_3 : decode c1_rankOf 3 = .ok (.ldc 48, 2) := by decide +kernel
theorem d1_rankOf_5 : decode c1_rankOf 5 = .ok (.imul, 1) := by decide +kernel
theorem d1_rankOf_6 : decode c1_rankOf 6 = .ok (.ldc 49, 2) := by decide +kernel
theorem d1_rankOf_8 : decode c1_rankOf 8 = .ok (.iadd, 1) := by decide +kernel
theorem d1_rankOf_9 : decode c1_rankOf 9 = .ok (.istore_n 1, 1) := by decide +kernel
theorem d1_rankOf_10 : decode c1_rankOf 10 = .ok (.iload_n 1, 1) := by decide +kernel
theorem d1_rankOf_11 : decode c1_rankOf 11 = .ok (.iload_n 1, 1) := by decide +kernel
theorem d1_rankOf_12 : decode c1_rankOf 12 = .ok (.bipush 15, 2) := by decide +kernel
theorem d1_rankOf_14 : decode c1_rankOf 14 = .ok (.iushr, 1) := by decide +kernel
theorem d1_rankOf_15 : decode c1_rankOf 15 = .ok (.ixor, 1) := by decide +kernel
theorem d1_rankOf_16 : decode c1_rankOf 16 = .ok (.ldc 50, 2) := by decide +kernel
theorem d1_rankOf_18 : decode c1_rankOf 18 = .ok (.iand, 1) := by decide +kernel
theorem d1_rankOf_19 : decode c1_rankOf 19 = .ok (.ireturn, 1) := by decide +kernel
theorem d1_isHigher_0 : decode c1_isHigher 0 = .ok (.aload_n 0, 1) := by decide +kernel
theorem d1_isHigher_1 : decode c1_isHigher 1 = .ok (.getfield 18, 3) := by decide +kernel
theorem d1_isHigher_4 : decode c1_isHigher 4 = .ok (.iload_n 1, 1) := by decide +kernel
theorem d1_isHigher_5 : decode c1_isHigher 5 = .ok (.iaload, 1) := by decide +kernel
theorem d1_isHigher_6 : decode c1_isHigher 6 = .ok (.aload_n 0, 1) := by decide +kernel
theorem d1_isHigher_7 : decode c1_isHigher 7 = .ok (.getfield 18, 3) := by decide +kernel
theorem d1_isHigher_10 : decode c1_isHigher 10 = .ok (.iload_n 2, 1) := by decide +kernel
theorem d1_isHigher_11 : decode c1_isHigher 11 = .ok (.iaload, 1) := by decide +kernel
theorem d1_isHigher_12 : decode c1_isHigher 12 = .ok (.if_icmp .gt 23, 3) := by decide +kernel
theorem d1_isHigher_15 : decode c1_isHigher 15 = .ok (.aload_n 0, 1) := by decide +kernel
theorem d1_isHigher_16 : decode c1_isHigher 16 = .ok (.getfield 18, 3) := by decide +kernel
theorem d1_isHigher_19 : decode c1_isHigher 19 = .ok (.iload_n 1, 1) := by decide +kernel
theorem d1_isHigher_20 : decode c1_isHigher 20 = .ok (.iaload, 1) := by decide +kernel
theorem d1_isHigher_21 : decode c1_isHigher 21 = .ok (.aload_n 0, 1) := by decide +kernel
theorem d1_isHigher_22 : decode c1_isHigher 22 = .ok (.getfield 18, 3) := by decide +kernel
theorem d1_isHigher_25 : decode c1_isHigher 25 = .ok (.iload_n 2, 1) := by decide +kernel
theorem d1_isHigher_26 : decode c1_isHigher 26 = .ok (.iaload, 1) := by decide +kernel
theorem d1_isHigher_27 : decode c1_isHigher 27 = .ok (.if_icmp .ne 12, 3) := by decide +kernel
theorem d1_isHigher_30 : decode c1_isHigher 30 = .ok (.iload_n 1, 1) := by decide +kernel
theorem d1_isHigher_31 : decode c1_isHigher 31 = .ok (.iload_n 2, 1) := by decide +kernel
theorem d1_isHigher_32 : decode c1_isHigher 32 = .ok (.if_icmp .ge 7, 3) := by decide +kernel
theorem d1_isHigher_35 : decode c1_isHigher 35 = .ok (.iconst 1, 1) := by decide +kernel
theorem d1_isHigher_36 : decode c1_isHigher 36 = .ok (.goto 4, 3) := by decide +kernel
theorem d1_isHigher_39 : decode c1_isHigher 39 = .ok (.iconst 0, 1) := by decide +kernel
theorem d1_isHigher_40 : decode c1_isHigher 40 = .ok (.ireturn, 1) := by decide +kernel
theorem d1_firstOfSubtree_0 : decode c1_firstOfSubtree 0 = .ok (.iload_n 1, 1) := by decide +kernel
theorem d1_firstOfSubtree_1 : decode c1_firstOfSubtree 1 = .ok (.istore_n 2, 1) := by decide +kernel
theorem d1_firstOfSubtree_2 : decode c1_firstOfSubtree 2 = .ok (.iload_n 2, 1) := by decide +kernel
theorem d1_firstOfSubtree_3 : decode c1_firstOfSubtree 3 = .ok (.ifCond .le 20, 3) := by decide +kernel
theorem d1_firstOfSubtree_6 : decode c1_firstOfSubtree 6 = .ok (.aload_n 0, 1) := by decide +kernel
theorem d1_firstOfSubtree_7 : decode c1_firstOfSubtree 7 = .ok (.iload_n 1, 1) := by decide +kernel
theorem d1_firstOfSubtree_8 : decode c1_firstOfSubtree 8 = .ok (.iload_n 2, 1) := by decide +kernel
theorem d1_firstOfSubtree_9 : decode c1_firstOfSubtree 9 = .ok (.iconst 1, 1) := by decide +kernel
theorem d1_firstOfSubtree_10 : decode c1_firstOfSubtree 10 = .ok (.isub, 1) := by decide +kernel
theorem d1_firstOfSubtree_11 : decode c1_firstOfSubtree 11 = .ok (.invokevirtual 51, 3) := by decide +kernel
theorem d1_firstOfSubtree_14 : decode c1_firstOfSubtree 14 = .ok (.ifCond .eq 9, 3) := by decide +kernel
theorem d1_firstOfSubtree_17 : decode c1_firstOfSubtree 17 = .ok (.iinc 2 (-1), 3) := by decide +kernel
theorem d1_firstOfSubtree_20 : decode c1_firstOfSubtree 20 = .ok (.goto (-18), 3) := by decide +kernel
theorem d1_firstOfSubtree_23 : decode c1_firstOfSubtree 23 = .ok (.iload_n 2, 1) := by decide +kernel
theorem d1_firstOfSubtree_24 : decode c1_firstOfSubtree 24 = .ok (.ireturn, 1) := by decide +kernel
theorem d1_lastOfSubtree_0 : decode c1_lastOfSubtree 0 = .ok (.iload_n 1, 1) := by decide +kernel
theorem d1_lastOfSubtree_1 : decode c1_lastOfSubtree 1 = .ok (.istore_n 2, 1) := by decide +kernel
theorem d1_lastOfSubtree_2 : decode c1_lastOfSubtree 2 = .ok (.iload_n 2, 1) := by decide +kernel
theorem d1_lastOfSubtree_3 : decode c1_lastOfSubtree 3 = .ok (.aload_n 0, 1) := by decide +kernel
theorem d1_lastOfSubtree_4 : decode c1_lastOfSubtree 4 = .ok (.getfield 24, 3) := by decide +kernel
theorem d1_lastOfSubtree_7 : decode c1_lastOfSubtree 7 = .ok (.iconst 1, 1) := by decide +kernel
theorem d1_lastOfSubtree_8 : decode c1_lastOfSubtree 8 = .ok (.isub, 1) := by decide +kernel
theorem d1_lastOfSubtree_9 : decode c1_lastOfSubtree 9 = .ok (.if_icmp .ge 20, 3) := by decide +kernel
theorem d1_lastOfSubtree_12 : decode c1_lastOfSubtree 12 = .ok (.aload_n 0, 1) := by decide +kernel
theorem d1_lastOfSubtree_13 : decode c1_lastOfSubtree 13 = .ok (.iload_n 1, 1) := by decide +kernel
theorem d1_lastOfSubtree_14 : decode c1_lastOfSubtree 14 = .ok (.iload_n 2, 1) := by decide +kernel
theorem d1_lastOfSubtree_15 : decode c1_lastOfSubtree 15 = .ok (.iconst 1, 1) := by decide +kernel
theorem d1_lastOfSubtree_16 : decode c1_lastOfSubtree 16 = .ok (.iadd, 1) := by decide +kernel
theorem d1_lastOfSubtree_17 : decode c1_lastOfSubtree 17 = .ok (.invokevirtual 51, 3) := by decide +kernel
theorem d1_lastOfSubtree_20 : decode c1_lastOfSubtree 20 = .ok (.ifCond .eq 9, 3) := by decide +kernel
theorem d1_lastOfSubtree_23 : decode c1_lastOfSubtree 23 = .ok (.iinc 2 1, 3) := by decide +kernel
theorem d1_lastOfSubtree_26 : decode c1_lastOfSubtree 26 = .ok (.goto (-24), 3) := by decide +kernel
theorem d1_lastOfSubtree_29 : decode c1_lastOfSubtree 29 = .ok (.iload_n 2, 1) := by decide +kernel
theorem d1_lastOfSubtree_30 : decode c1_lastOfSubtree 30 = .ok (.ireturn, 1) := by decide +kernel
theorem d1_depthAt_0 : decode c1_depthAt 0 = .ok (.iconst 0, 1) := by decide +kernel
theorem d1_depthAt_1 : decode c1_depthAt 1 = .ok (.istore_n 2, 1) := by decide +kernel
theorem d1_depthAt_2 : decode c1_depthAt 2 = .ok (.iconst 0, 1) := by decide +kernel
theorem d1_depthAt_3 : decode c1_depthAt 3 = .ok (.istore_n 3, 1) := by decide +kernel
theorem d1_depthAt_4 : decode c1_depthAt 4 = .ok (.iload_n 3, 1) := by decide +kernel
theorem d1_depthAt_5 : decode c1_depthAt 5 = .ok (.aload_n 0, 1) := by decide +kernel
theorem d1_depthAt_6 : decode c1_depthAt 6 = .ok (.getfield 24, 3) := by decide +kernel
theorem d1_depthAt_9 : decode c1_depthAt 9 = .ok (.if_icmp .ge 35, 3) := by decide +kernel
theorem d1_depthAt_12 : decode c1_depthAt 12 = .ok (.iload_n 3, 1) := by decide +kernel
theorem d1_depthAt_13 : decode c1_depthAt 13 = .ok (.iload_n 1, 1) := by decide +kernel
theorem d1_depthAt_14 : decode c1_depthAt 14 = .ok (.if_icmp .eq 24, 3) := by decide +kernel
theorem d1_depthAt_17 : decode c1_depthAt 17 = .ok (.aload_n 0, 1) := by decide +kernel
theorem d1_depthAt_18 : decode c1_depthAt 18 = .ok (.iload_n 3, 1) := by decide +kernel
theorem d1_depthAt_19 : decode c1_depthAt 19 = .ok (.invokevirtual 55, 3) := by decide +kernel
theorem d1_depthAt_22 : decode c1_depthAt 22 = .ok (.iload_n 1, 1) := by decide +kernel
theorem d1_depthAt_23 : decode c1_depthAt 23 = .ok (.if_icmp .gt 15, 3) := by decide +kernel
theorem d1_depthAt_26 : decode c1_depthAt 26 = .ok (.iload_n 1, 1) := by decide +kernel
theorem d1_depthAt_27 : decode c1_depthAt 27 = .ok (.aload_n 0, 1) := by decide +kernel
theorem d1_depthAt_28 : decode c1_depthAt 28 = .ok (.iload_n 3, 1) := by decide +kernel
theorem d1_depthAt_29 : decode c1_depthAt 29 = .ok (.invokevirtual 58, 3) := by decide +kernel
theorem d1_depthAt_32 : decode c1_depthAt 32 = .ok (.if_icmp .gt 6, 3) := by decide +kernel
theorem d1_depthAt_35 : decode c1_depthAt 35 = .ok (.iinc 2 1, 3) := by decide +kernel
theorem d1_depthAt_38 : decode c1_depthAt 38 = .ok (.iinc 3 1, 3) := by decide +kernel
theorem d1_depthAt_41 : decode c1_depthAt 41 = .ok (.goto (-37), 3) := by decide +kernel
theorem d1_depthAt_44 : decode c1_depthAt 44 = .ok (.iload_n 2, 1) := by decide +kernel
theorem d1_depthAt_45 : decode c1_depthAt 45 = .ok (.ireturn, 1) := by decide +kernel
theorem d1_keepNodesOf_0 : decode c1_keepNodesOf 0 = .ok (.iconst 0, 1) := by decide +kernel
theorem d1_keepNodesOf_1 : decode c1_keepNodesOf 1 = .ok (.istore_n 2, 1) := by decide +kernel
theorem d1_keepNodesOf_2 : decode c1_keepNodesOf 2 = .ok (.iconst 0, 1) := by decide +kernel
theorem d1_keepNodesOf_3 : decode c1_keepNodesOf 3 = .ok (.istore_n 3, 1) := by decide +kernel
theorem d1_keepNodesOf_4 : decode c1_keepNodesOf 4 = .ok (.iload_n 3, 1) := by decide +kernel
theorem d1_keepNodesOf_5 : decode c1_keepNodesOf 5 = .ok (.aload_n 0, 1) := by decide +kernel
theorem d1_keepNodesOf_6 : decode c1_keepNodesOf 6 = .ok (.getfield 24, 3) := by decide +kernel
theorem d1_keepNodesOf_9 : decode c1_keepNodesOf 9 = .ok (.if_icmp .ge 64, 3) := by decide +kernel
theorem d1_keepNodesOf_12 : decode c1_keepNodesOf 12 = .ok (.aload_n 1, 1) := by decide +kernel
theorem d1_keepNodesOf_13 : decode c1_keepNodesOf 13 = .ok (.aload_n 0, 1) := by decide +kernel
theorem d1_keepNodesOf_14 : decode c1_keepNodesOf 14 = .ok (.getfield 9, 3) := by decide +kernel
theorem d1_keepNodesOf_17 : decode c1_keepNodesOf 17 = .ok (.iload_n 3, 1) := by decide +kernel
theorem d1_keepNodesOf_18 : decode c1_keepNodesOf 18 = .ok (.iaload, 1) := by decide +kernel
theorem d1_keepNodesOf_19 : decode c1_keepNodesOf 19 = .ok (.invokevirtual 38, 3) := by decide +kernel
theorem d1_keepNodesOf_22 : decode c1_keepNodesOf 22 = .ok (.istore 4, 2) := by decide +kernel
theorem d1_keepNodesOf_24 : decode c1_keepNodesOf 24 = .ok (.iload 4, 2) := by decide +kernel
theorem d1_keepNodesOf_26 : decode c1_keepNodesOf 26 = .ok (.iconst (-1), 1) := by decide +kernel
theorem d1_keepNodesOf_27 : decode c1_keepNodesOf 27 = .ok (.if_icmp .eq 30, 3) := by decide +kernel
theorem d1_keepNodesOf_30 : decode c1_keepNodesOf 30 = .ok (.aload_n 0, 1) := by decide +kernel
theorem d1_keepNodesOf_31 : decode c1_keepNodesOf 31 = .ok (.iload_n 3, 1) := by decide +kernel
theorem d1_keepNodesOf_32 : decode c1_keepNodesOf 32 = .ok (.aload_n 1, 1) := by decide +kernel
theorem d1_keepNodesOf_33 : decode c1_keepNodesOf 33 = .ok (.iload 4, 2) := by decide +kernel
theorem d1_keepNodesOf_35 : decode c1_keepNodesOf 35 = .ok (.invokevirtual 61, 3) := by decide +kernel
theorem d1_keepNodesOf_38 : decode c1_keepNodesOf 38 = .ok (.ifCond .eq 19, 3) := by decide +kernel
theorem d1_keepNodesOf_41 : decode c1_keepNodesOf 41 = .ok (.aload_n 0, 1) := by decide +kernel
theorem d1_keepNodesOf_42 : decode c1_keepNodesOf 42 = .ok (.getfield 21, 3) := by decide +kernel
theorem d1_keepNodesOf_45 : decode c1_keepNodesOf 45 = .ok (.iload_n 3, 1) := by decide +kernel
theorem d1_keepNodesOf_46 : decode c1_keepNodesOf 46 = .ok (.aload_n 1, 1) := by decide +kernel
theorem d1_keepNodesOf_47 : decode c1_keepNodesOf 47 = .ok (.getfield 21, 3) := by decide +kernel
theorem d1_keepNodesOf_50 : decode c1_keepNodesOf 50 = .ok (.iload 4, 2) := by decide +kernel
theorem d1_keepNodesOf_52 : decode c1_keepNodesOf 52 = .ok (.iaload, 1) := by decide +kernel
theorem d1_keepNodesOf_53 : decode c1_keepNodesOf 53 = .ok (.iastore, 1) := by decide +kernel
theorem d1_keepNodesOf_54 : decode c1_keepNodesOf 54 = .ok (.goto 13, 3) := by decide +kernel
theorem d1_keepNodesOf_57 : decode c1_keepNodesOf 57 = .ok (.aload_n 0, 1) := by decide +kernel
theorem d1_keepNodesOf_58 : decode c1_keepNodesOf 58 = .ok (.getfield 21, 3) := by decide +kernel
theorem d1_keepNodesOf_61 : decode c1_keepNodesOf 61 = .ok (.iload_n 3, 1) := by decide +kernel
theorem d1_keepNodesOf_62 : decode c1_keepNodesOf 62 = .ok (.iconst (-1), 1) := by decide +kernel
theorem d1_keepNodesOf_63 : decode c1_keepNodesOf 63 = .ok (.iastore, 1) := by decide +kernel
theorem d1_keepNodesOf_64 : decode c1_keepNodesOf 64 = .ok (.iinc 2 1, 3) := by decide +kernel
theorem d1_keepNodesOf_67 : decode c1_keepNodesOf 67 = .ok (.iinc 3 1, 3) := by decide +kernel
theorem d1_keepNodesOf_70 : decode c1_keepNodesOf 70 = .ok (.goto (-66), 3) := by decide +kernel
theorem d1_keepNodesOf_73 : decode c1_keepNodesOf 73 = .ok (.iload_n 2, 1) := by decide +kernel
theorem d1_keepNodesOf_74 : decode c1_keepNodesOf 74 = .ok (.ireturn, 1) := by decide +kernel
theorem d1_hasSameSubtree_0 : decode c1_hasSameSubtree 0 = .ok (.aload_n 0, 1) := by decide +kernel
theorem d1_hasSameSubtree_1 : decode c1_hasSameSubtree 1 = .ok (.iload_n 1, 1) := by decide +kernel
theorem d1_hasSameSubtree_2 : decode c1_hasSameSubtree 2 = .ok (.invokevirtual 55, 3) := by decide +kernel
theorem d1_hasSameSubtree_5 : decode c1_hasSameSubtree 5 = .ok (.istore 4, 2) := by decide +kernel
theorem d1_hasSameSubtree_7 : decode c1_hasSameSubtree 7 = .ok (.aload_n 0, 1) := by decide +kernel
theorem d1_hasSameSubtree_8 : decode c1_hasSameSubtree 8 = .ok (.iload_n 1, 1) := by decide +kernel
theorem d1_hasSameSubtree_9 : decode c1_hasSameSubtree 9 = .ok (.invokevirtual 58, 3) := by decide +kernel
theorem d1_hasSameSubtree_12 : decode c1_hasSameSubtree 12 = .ok (.iload 4, 2) := by decide +kernel
theorem d1_hasSameSubtree_14 : decode c1_hasSameSubtree 14 = .ok (.isub, 1) := by decide +kernel
theorem d1_hasSameSubtree_15 : decode c1_hasSameSubtree 15 = .ok (.iconst 1, 1) := by decide +kernel
theorem d1_hasSameSubtree_16 : decode c1_hasSameSubtree 16 = .ok (.iadd, 1) := by decide +kernel
theorem d1_hasSameSubtree_17 : decode c1_hasSameSubtree 17 = .ok (.istore 5, 2) := by decide +kernel
theorem d1_hasSameSubtree_19 : decode c1_hasSameSubtree 19 = .ok (.aload_n 2, 1) := by decide +kernel
theorem d1_hasSameSubtree_20 : decode c1_hasSameSubtree 20 = .ok (.iload_n 3, 1) := by decide +kernel
theorem d1_hasSameSubtree_21 : decode c1_hasSameSubtree 21 = .ok (.invokevirtual 55, 3) := by decide +kernel
theorem d1_hasSameSubtree_24 : decode c1_hasSameSubtree 24 = .ok (.istore 6, 2) := by decide +kernel
theorem d1_hasSameSubtree_26 : decode c1_hasSameSubtree 26 = .ok (.aload_n 2, 1) := by decide +kernel
theorem d1_hasSameSubtree_27 : decode c1_hasSameSubtree 27 = .ok (.iload_n 3, 1) := by decide +kernel
theorem d1_hasSameSubtree_28 : decode c1_hasSameSubtree 28 = .ok (.invokevirtual 58, 3) := by decide +kernel
theorem d1_hasSameSubtree_31 : decode c1_hasSameSubtree 31 = .ok (.iload 6, 2) := by decide +kernel
theorem d1_hasSameSubtree_33 : decode c1_hasSameSubtree 33 = .ok (.isub, 1) := by decide +kernel
theorem d1_hasSameSubtree_34 : decode c1_hasSameSubtree 34 = .ok (.iconst 1, 1) := by decide +kernel
theorem d1_hasSameSubtree_35 : decode c1_hasSameSubtree 35 = .ok (.iadd, 1) := by decide +kernel
theorem d1_hasSameSubtree_36 : decode c1_hasSameSubtree 36 = .ok (.iload 5, 2) := by decide +kernel
theorem d1_hasSameSubtree_38 : decode c1_hasSameSubtree 38 = .ok (.if_icmp .eq 5, 3) := by decide +kernel
theorem d1_hasSameSubtree_41 : decode c1_hasSameSubtree 41 = .ok (.iconst 0, 1) := by decide +kernel
theorem d1_hasSameSubtree_42 : decode c1_hasSameSubtree 42 = .ok (.ireturn, 1) := by decide +kernel
theorem d1_hasSameSubtree_43 : decode c1_hasSameSubtree 43 = .ok (.iconst 0, 1) := by decide +kernel
theorem d1_hasSameSubtree_44 : decode c1_hasSameSubtree 44 = .ok (.istore 7, 2) := by decide +kernel
theorem d1_hasSameSubtree_46 : decode c1_hasSameSubtree 46 = .ok (.iload 7, 2) := by decide +kernel
theorem d1_hasSameSubtree_48 : decode c1_hasSameSubtree 48 = .ok (.iload 5, 2) := by decide +kernel
theorem d1_hasSameSubtree_50 : decode c1_hasSameSubtree 50 = .ok (.if_icmp .ge 57, 3) := by decide +kernel
theorem d1_hasSameSubtree_53 : decode c1_hasSameSubtree 53 = .ok (.aload_n 0, 1) := by decide +kernel
theorem d1_hasSameSubtree_54 : decode c1_hasSameSubtree 54 = .ok (.getfield 9, 3) := by decide +kernel
theorem d1_hasSameSubtree_57 : decode c1_hasSameSubtree 57 = .ok (.iload 4, 2) := by decide +kernel
theorem d1_hasSameSubtree_59 : decode c1_hasSameSubtree 59 = .ok (.iload 7, 2) := by decide +kernel
theorem d1_hasSameSubtree_61 : decode c1_hasSameSubtree 61 = .ok (.iadd, 1) := by decide +kernel
theorem d1_hasSameSubtree_62 : decode c1_hasSameSubtree 62 = .ok (.iaload, 1) := by decide +kernel
theorem d1_hasSameSubtree_63 : decode c1_hasSameSubtree 63 = .ok (.aload_n 2, 1) := by decide +kernel
theorem d1_hasSameSubtree_64 : decode c1_hasSameSubtree 64 = .ok (.getfield 9, 3) := by decide +kernel
theorem d1_hasSameSubtree_67 : decode c1_hasSameSubtree 67 = .ok (.iload 6, 2) := by decide +kernel
theorem d1_hasSameSubtree_69 : decode c1_hasSameSubtree 69 = .ok (.iload 7, 2) := by decide +kernel
theorem d1_hasSameSubtree_71 : decode c1_hasSameSubtree 71 = .ok (.iadd, 1) := by decide +kernel
theorem d1_hasSameSubtree_72 : decode c1_hasSameSubtree 72 = .ok (.iaload, 1) := by decide +kernel
theorem d1_hasSameSubtree_73 : decode c1_hasSameSubtree 73 = .ok (.if_icmp .ne 26, 3) := by decide +kernel
theorem d1_hasSameSubtree_76 : decode c1_hasSameSubtree 76 = .ok (.aload_n 0, 1) := by decide +kernel
theorem d1_hasSameSubtree_77 : decode c1_hasSameSubtree 77 = .ok (.getfield 15, 3) := by decide +kernel
theorem d1_hasSameSubtree_80 : decode c1_hasSameSubtree 80 = .ok (.iload 4, 2) := by decide +kernel
theorem d1_hasSameSubtree_82 : decode c1_hasSameSubtree 82 = .ok (.iload 7, 2) := by decide +kernel
theorem d1_hasSameSubtree_84 : decode c1_hasSameSubtree 84 = .ok (.iadd, 1) := by decide +kernel
theorem d1_hasSameSubtree_85 : decode c1_hasSameSubtree 85 = .ok (.iaload, 1) := by decide +kernel
theorem d1_hasSameSubtree_86 : decode c1_hasSameSubtree 86 = .ok (.aload_n 2, 1) := by decide +kernel
theorem d1_hasSameSubtree_87 : decode c1_hasSameSubtree 87 = .ok (.getfield 15, 3) := by decide +kernel
theorem d1_hasSameSubtree_90 : decode c1_hasSameSubtree 90 = .ok (.iload 6, 2) := by decide +kernel
theorem d1_hasSameSubtree_92 : decode c1_hasSameSubtree 92 = .ok (.iload 7, 2) := by decide +kernel
theorem d1_hasSameSubtree_94 : decode c1_hasSameSubtree 94 = .ok (.iadd, 1) := by decide +kernel
theorem d1_hasSameSubtree_95 : decode c1_hasSameSubtree 95 = .ok (.iaload, 1) := by decide +kernel
theorem d1_hasSameSubtree_96 : decode c1_hasSameSubtree 96 = .ok (.if_icmp .eq 5, 3) := by decide +kernel
theorem d1_hasSameSubtree_99 : decode c1_hasSameSubtree 99 = .ok (.iconst 0, 1) := by decide +kernel
theorem d1_hasSameSubtree_100 : decode c1_hasSameSubtree 100 = .ok (.ireturn, 1) := by decide +kernel
theorem d1_hasSameSubtree_101 : decode c1_hasSameSubtree 101 = .ok (.iinc 7 1, 3) := by decide +kernel
theorem d1_hasSameSubtree_104 : decode c1_hasSameSubtree 104 = .ok (.goto (-58), 3) := by decide +kernel
theorem d1_hasSameSubtree_107 : decode c1_hasSameSubtree 107 = .ok (.iconst 1, 1) := by decide +kernel
theorem d1_hasSameSubtree_108 : decode c1_hasSameSubtree 108 = .ok (.ireturn, 1) := by decide +kernel

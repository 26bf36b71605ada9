theorem dX0_init_0 : decode cX0_init 0 = .ok (.aload_n 0, 1) := by decide +kernel
theorem dX0_init_1 : decode cX0_init 1 = .ok (.invokespecial 3, 3) := by decide +kernel
theorem dX0_init_4 : decode cX0_init 4 = .ok (.aload_n 0, 1) := by decide +kernel
theorem dX0_init_5 : decode cX0_init 5 = .ok (.bipush 6, 2) := by decide +kernel
theorem dX0_init_7 : decode cX0_init 7 = .ok (.putfield 9, 3) := by decide +kernel
theorem dX0_init_10 : decode cX0_init 10 = .ok (.aload_n 0, 1) := by decide +kernel
theorem dX0_init_11 : decode cX0_init 11 = .ok (.iconst 2, 1) := by decide +kernel
theorem dX0_init_12 : decode cX0_init 12 = .ok (.putfield 15, 3) := by decide +kernel
theorem dX0_init_15 : decode cX0_init 15 = .ok (.aload_n 0, 1) := by decide +kernel
theorem dX0_init_16 : decode cX0_init 16 = .ok (.bipush 7, 2) := by decide +kernel
theorem dX0_init_18 : decode cX0_init 18 = .ok (.anewarray 18, 3) := by decide +kernel
theorem dX0_init_21 : decode cX0_init 21 = .ok (.putfield 20, 3) := by decide +kernel
theorem dX0_init_24 : decode cX0_init 24 = .ok (.aload_n 0, 1) := by decide +kernel
theorem dX0_init_25 : decode cX0_init 25 = .ok (.bipush 10, 2) := by decide +kernel
theorem dX0_init_27 : decode cX0_init 27 = .ok (.newarray .int, 2) := by decide +kernel
theorem dX0_init_29 : decode cX0_init 29 = .ok (.putfield 24, 3) := by decide +kernel
theorem dX0_init_32 : decode cX0_init 32 = .ok (.return_, 1) := by decide +kernel
theorem dX0_become_0 : decode cX0_become 0 = .ok (.aload_n 0, 1) := by decide +kernel
theorem dX0_become_1 : decode cX0_become 1 = .ok (.aload_n 1, 1) := by decide +kernel
theorem dX0_become_2 : decode cX0_become 2 = .ok (.getfield 9, 3) := by decide +kernel
theorem dX0_become_5 : decode cX0_become 5 = .ok (.putfield 9, 3) := by decide +kernel
theorem dX0_become_8 : decode cX0_become 8 = .ok (.aload_n 0, 1) := by decide +kernel
theorem dX0_become_9 : decode cX0_become 9 = .ok (.aload_n 1, 1) := by decide +kernel
theorem dX0_become_10 : decode cX0_become 10 = .ok (.getfield 15, 3) := by decide +kernel
theorem dX0_become_13 : decode cX0_become 13 = .ok (.putfield 15, 3) := by decide +kernel
theorem dX0_become_16 : decode cX0_become 16 = .ok (.aload_n 0, 1) := by decide +kernel
theorem dX0_become_17 : decode cX0_become 17 = .ok (.aload_n 1, 1) := by decide +kernel
theorem dX0_become_18 : decode cX0_become 18 = .ok (.getfield 28, 3) := by decide +kernel
theorem dX0_become_21 : decode cX0_become 21 = .ok (.putfield 28, 3) := by decide +kernel
theorem dX0_become_24 : decode cX0_become 24 = .ok (.iconst 0, 1) := by decide +kernel
theorem dX0_become_25 : decode cX0_become 25 = .ok (.istore_n 2, 1) := by decide +kernel
theorem dX0_become_26 : decode cX0_become 26 = .ok (.iload_n 2, 1) := by decide +kernel
theorem dX0_become_27 : decode cX0_become 27 = .ok (.aload_n 0, 1) := by decide +kernel
theorem dX0_become_28 : decode cX0_become 28 = .ok (.getfield 20, 3) := by decide +kernel
theorem dX0_become_31 : decode cX0_become 31 = .ok (.arraylength, 1) := by decide +kernel
theorem dX0_become_32 : decode cX0_become 32 = .ok (.if_icmp .ge 30, 3) := by decide +kernel
theorem dX0_become_35 : decode cX0_become 35 = .ok (.iload_n 2, 1) := by decide +kernel
theorem dX0_become_36 : decode cX0_become 36 = .ok (.aload_n 1, 1) := by decide +kernel
theorem dX0_become_37 : decode cX0_become 37 = .ok (.getfield 20, 3) := by decide +kernel
theorem dX0_become_40 : decode cX0_become 40 = .ok (.arraylength, 1) := by decide +kernel
theorem dX0_become_41 : decode cX0_become 41 = .ok (.if_icmp .ge 21, 3) := by decide +kernel
theorem dX0_become_44 : decode cX0_become 44 = .ok (.aload_n 0, 1) := by decide +kernel
theorem dX0_become_45 : decode cX0_become 45 = .ok (.getfield 20, 3) := by decide +kernel
theorem dX0_become_48 : decode cX0_become 48 = .ok (.iload_n 2, 1) := by decide +kernel
theorem dX0_become_49 : decode cX0_become 49 = .ok (.aload_n 1, 1) := by decide +kernel
theorem dX0_become_50 : decode cX0_become 50 = .ok (.getfield 20, 3) := by decide +kernel
theorem dX0_become_53 : decode cX0_become 53 = .ok (.iload_n 2, 1) := by decide +kernel
theorem dX0_become_54 : decode cX0_become 54 = .ok (.aaload, 1) := by decide +kernel
theorem dX0_become_55 : decode cX0_become 55 = .ok (.aastore, 1) := by decide +kernel
theorem dX0_become_56 : decode cX0_become 56 = .ok (.iinc 2 1, 3) := by decide +kernel
theorem dX0_become_59 : decode cX0_become 59 = .ok (.goto (-33), 3) := by decide +kernel
theorem dX0_become_62 : decode cX0_become 62 = .ok (.aload_n 0, 1) := by decide +kernel
theorem dX0_become_63 : decode cX0_become 63 = .ok (.aload_n 1, 1) := by decide +kernel
theorem dX0_become_64 : decode cX0_become 64 = .ok (.getfield 31, 3) := by decide +kernel
theorem dX0_become_67 : decode cX0_become 67 = .ok (.putfield 31, 3) := by decide +kernel
theorem dX0_become_70 : decode cX0_become 70 = .ok (.aload_n 0, 1) := by decide +kernel
theorem dX0_become_71 : decode cX0_become 71 = .ok (.aload_n 1, 1) := by decide +kernel
theorem dX0_become_72 : decode cX0_become 72 = .ok (.getfield 34, 3) := by decide +kernel
theorem dX0_become_75 : decode cX0_become 75 = .ok (.putfield 34, 3) := by decide +kernel
theorem dX0_become_78 : decode cX0_become 78 = .ok (.aload_n 0, 1) := by decide +kernel
theorem dX0_become_79 : decode cX0_become 79 = .ok (.aload_n 1, 1) := by decide +kernel
theorem dX0_become_80 : decode cX0_become 80 = .ok (.getfield 37, 3) := by decide +kernel
theorem dX0_become_83 : decode cX0_become 83 = .ok (.putfield 37, 3) := by decide +kernel
theorem dX0_become_86 : decode cX0_become 86 = .ok (.aload_n 0, 1) := by decide +kernel
theorem dX0_become_87 : decode cX0_become 87 = .ok (.aload_n 1, 1) := by decide +kernel
theorem dX0_become_88 : decode cX0_become 88 = .ok (.getfield 40, 3) := by decide +kernel
theorem dX0_become_91 : decode cX0_become 91 = .ok (.putfield 40, 3) := by decide +kernel
theorem dX0_become_94 : decode cX0_become 94 = .ok (.aload_n 0, 1) := by decide +kernel
theorem dX0_become_95 : decode cX0_become 95 = .ok (.aload_n 1, 1) := by decide +kernel
theorem dX0_become_96 : decode cX0_become 96 = .ok (.getfield 43, 3) := by decide +kernel
theorem dX0_become_99 : decode cX0_become 99 = .ok (.putfield 43, 3) := by decide +kernel
theorem dX0_become_102 : decode cX0_become 102 = .ok (.iconst 0, 1) := by decide +kernel
theorem dX0_become_103 : decode cX0_become 103 = .ok (.istore_n 2, 1) := by decide +kernel
theorem dX0_become_104 : decode cX0_become 104 = .ok (.iload_n 2, 1) := by decide +kernel
theorem dX0_become_105 : decode cX0_become 105 = .ok (.aload_n 0, 1) := by decide +kernel
theorem dX0_become_106 : decode cX0_become 106 = .ok (.getfield 24, 3) := by decide +kernel
theorem dX0_become_109 : decode cX0_become 109 = .ok (.arraylength, 1) := by decide +kernel
theorem dX0_become_110 : decode cX0_become 110 = .ok (.if_icmp .ge 30, 3) := by decide +kernel
theorem dX0_become_113 : decode cX0_become 113 = .ok (.iload_n 2, 1) := by decide +kernel
theorem dX0_become_114 : decode cX0_become 114 = .ok (.aload_n 1, 1) := by decide +kernel
theorem dX0_become_115 : decode cX0_become 115 = .ok (.getfield 24, 3) := by decide +kernel
theorem dX0_become_118 : decode cX0_become 118 = .ok (.arraylength, 1) := by decide +kernel
theorem dX0_become_119 : decode cX0_become 119 = .ok (.if_icmp .ge 21, 3) := by decide +kernel
theorem dX0_become_122 : decode cX0_become 122 = .ok (.aload_n 0, 1) := by decide +kernel
theorem dX0_become_123 : decode cX0_become 123 = .ok (.getfield 24, 3) := by decide +kernel
theorem dX0_become_126 : decode cX0_become 126 = .ok (.iload_n 2, 1) := by decide +kernel
theorem dX0_become_127 : decode cX0_become 127 = .ok (.aload_n 1, 1) := by decide +kernel
theorem dX0_become_128 : decode cX0_become 128 = .ok (.getfield 24, 3) := by decide +kernel
theorem dX0_become_131 : decode cX0_become 131 = .ok (.iload_n 2, 1) := by decide +kernel
theorem dX0_become_132 : decode cX0_become 132 = .ok (.iaload, 1) := by decide +kernel
theorem dX0_become_133 : decode cX0_become 133 = .ok (.iastore, 1) := by decide +kernel
theorem dX0_become_134 : decode cX0_become 134 = .ok (.iinc 2 1, 3) := by decide +kernel
theorem dX0_become_137 : decode cX0_become 137 = .ok (.goto (-33), 3) := by decide +kernel
theorem dX0_become_140 : decode cX0_become 140 = .ok (.aload_n 0, 1) := by decide +kernel
theorem dX0_become_141 : decode cX0_become 141 = .ok (.aload_n 1, 1) := by decide +kernel
theorem dX0_become_142 : decode cX0_become 142 = .ok (.getfield 46, 3) := by decide +kernel
theorem dX0_become_145 : decode cX0_become 145 = .ok (.putfield 46, 3) := by decide +kernel
theorem dX0_become_148 : decode cX0_become 148 = .ok (.return_, 1) := by decide +kernel
theorem dX0_hasDoor_0 : decode cX0_hasDoor 0 = .ok (.iload_n 1, 1) := by decide +kernel
theorem dX0_hasDoor_1 : decode cX0_hasDoor 1 = .ok (.iconst 1, 1) := by decide +kernel
theorem dX0_hasDoor_2 : decode cX0_hasDoor 2 = .ok (.if_icmp .lt 15, 3) := by decide +kernel
theorem dX0_hasDoor_5 : decode cX0_hasDoor 5 = .ok (.iload_n 1, 1) := by decide +kernel
theorem dX0_hasDoor_6 : decode cX0_hasDoor 6 = .ok (.aload_n 0, 1) := by decide +kernel
theorem dX0_hasDoor_7 : decode cX0_hasDoor 7 = .ok (.getfield 9, 3) := by decide +kernel
theorem dX0_hasDoor_10 : decode cX0_hasDoor 10 = .ok (.if_icmp .gt 7, 3) := by decide +kernel
theorem dX0_hasDoor_13 : decode cX0_hasDoor 13 = .ok (.iconst 1, 1) := by decide +kernel
theorem dX0_hasDoor_14 : decode cX0_hasDoor 14 = .ok (.goto 4, 3) := by decide +kernel
theorem dX0_hasDoor_17 : decode cX0_hasDoor 17 = .ok (.iconst 0, 1) := by decide +kernel
theorem dX0_hasDoor_18 : decode cX0_hasDoor 18 = .ok (.ireturn, 1) := by decide +kernel
theorem dX0_isStuck_0 : decode cX0_isStuck 0 = .ok (.aload_n 0, 1) := by decide +kernel
theorem dX0_isStuck_1 : decode cX0_isStuck 1 = .ok (.getfield 31, 3) := by decide +kernel
theorem dX0_isStuck_4 : decode cX0_isStuck 4 = .ok (.iload_n 1, 1) := by decide +kernel
theorem dX0_isStuck_5 : decode cX0_isStuck 5 = .ok (.invokestatic 49, 3) := by decide +kernel
theorem dX0_isStuck_8 : decode cX0_isStuck 8 = .ok (.iand, 1) := by decide +kernel
theorem dX0_isStuck_9 : decode cX0_isStuck 9 = .ok (.ifCond .eq 7, 3) := by decide +kernel
theorem dX0_isStuck_12 : decode cX0_isStuck 12 = .ok (.iconst 1, 1) := by decide +kernel
theorem dX0_isStuck_13 : decode cX0_isStuck 13 = .ok (.goto 4, 3) := by decide +kernel
theorem dX0_isStuck_16 : decode cX0_isStuck 16 = .ok (.iconst 0, 1) := by decide +kernel
theorem dX0_isStuck_17 : decode cX0_isStuck 17 = .ok (.ireturn, 1) := by decide +kernel
theorem dX0_wishFor_0 : decode cX0_wishFor 0 = .ok (.aload_n 0, 1) := by decide +kernel
theorem dX0_wishFor_1 : decode cX0_wishFor 1 = .ok (.getfield 34, 3) := by decide +kernel
theorem dX0_wishFor_4 : decode cX0_wishFor 4 = .ok (.iload_n 1, 1) := by decide +kernel
theorem dX0_wishFor_5 : decode cX0_wishFor 5 = .ok (.invokestatic 49, 3) := by decide +kernel
theorem dX0_wishFor_8 : decode cX0_wishFor 8 = .ok (.iand, 1) := by decide +kernel
theorem dX0_wishFor_9 : decode cX0_wishFor 9 = .ok (.ifCond .ne 8, 3) := by decide +kernel
theorem dX0_wishFor_12 : decode cX0_wishFor 12 = .ok (.bipush 9, 2) := by decide +kernel
theorem dX0_wishFor_14 : decode cX0_wishFor 14 = .ok (.goto 11, 3) := by decide +kernel
theorem dX0_wishFor_17 : decode cX0_wishFor 17 = .ok (.aload_n 0, 1) := by decide +kernel
theorem dX0_wishFor_18 : decode cX0_wishFor 18 = .ok (.getfield 37, 3) := by decide +kernel
theorem dX0_wishFor_21 : decode cX0_wishFor 21 = .ok (.iload_n 1, 1) := by decide +kernel
theorem dX0_wishFor_22 : decode cX0_wishFor 22 = .ok (.invokestatic 53, 3) := by decide +kernel
theorem dX0_wishFor_25 : decode cX0_wishFor 25 = .ok (.ireturn, 1) := by decide +kernel
theorem dX0_isWish_0 : decode cX0_isWish 0 = .ok (.iload_n 1, 1) := by decide +kernel
theorem dX0_isWish_1 : decode cX0_isWish 1 = .ok (.aload_n 0, 1) := by decide +kernel
theorem dX0_isWish_2 : decode cX0_isWish 2 = .ok (.getfield 34, 3) := by decide +kernel
theorem dX0_isWish_5 : decode cX0_isWish 5 = .ok (.iand, 1) := by decide +kernel
theorem dX0_isWish_6 : decode cX0_isWish 6 = .ok (.aload_n 0, 1) := by decide +kernel
theorem dX0_isWish_7 : decode cX0_isWish 7 = .ok (.getfield 37, 3) := by decide +kernel
theorem dX0_isWish_10 : decode cX0_isWish 10 = .ok (.if_icmp .ne 7, 3) := by decide +kernel
theorem dX0_isWish_13 : decode cX0_isWish 13 = .ok (.iconst 1, 1) := by decide +kernel
theorem dX0_isWish_14 : decode cX0_isWish 14 = .ok (.goto 4, 3) := by decide +kernel
theorem dX0_isWish_17 : decode cX0_isWish 17 = .ok (.iconst 0, 1) := by decide +kernel
theorem dX0_isWish_18 : decode cX0_isWish 18 = .ok (.ireturn, 1) := by decide +kernel
theorem dX0_stateOf_0 : decode cX0_stateOf 0 = .ok (.iconst 0, 1) := by decide +kernel
theorem dX0_stateOf_1 : decode cX0_stateOf 1 = .ok (.istore_n 2, 1) := by decide +kernel
theorem dX0_stateOf_2 : decode cX0_stateOf 2 = .ok (.aload_n 0, 1) := by decide +kernel
theorem dX0_stateOf_3 : decode cX0_stateOf 3 = .ok (.getfield 9, 3) := by decide +kernel
theorem dX0_stateOf_6 : decode cX0_stateOf 6 = .ok (.istore_n 3, 1) := by decide +kernel
theorem dX0_stateOf_7 : decode cX0_stateOf 7 = .ok (.iload_n 3, 1) := by decide +kernel
theorem dX0_stateOf_8 : decode cX0_stateOf 8 = .ok (.iconst 1, 1) := by decide +kernel
theorem dX0_stateOf_9 : decode cX0_stateOf 9 = .ok (.if_icmp .lt 22, 3) := by decide +kernel
theorem dX0_stateOf_12 : decode cX0_stateOf 12 = .ok (.iload_n 2, 1) := by decide +kernel
theorem dX0_stateOf_13 : decode cX0_stateOf 13 = .ok (.aload_n 0, 1) := by decide +kernel
theorem dX0_stateOf_14 : decode cX0_stateOf 14 = .ok (.getfield 15, 3) := by decide +kernel
theorem dX0_stateOf_17 : decode cX0_stateOf 17 = .ok (.imul, 1) := by decide +kernel
theorem dX0_stateOf_18 : decode cX0_stateOf 18 = .ok (.iload_n 1, 1) := by decide +kernel
theorem dX0_stateOf_19 : decode cX0_stateOf 19 = .ok (.iload_n 3, 1) := by decide +kernel
theorem dX0_stateOf_20 : decode cX0_stateOf 20 = .ok (.invokestatic 53, 3) := by decide +kernel
theorem dX0_stateOf_23 : decode cX0_stateOf 23 = .ok (.iadd, 1) := by decide +kernel
theorem dX0_stateOf_24 : decode cX0_stateOf 24 = .ok (.istore_n 2, 1) := by decide +kernel
theorem dX0_stateOf_25 : decode cX0_stateOf 25 = .ok (.iinc 3 (-1), 3) := by decide +kernel
theorem dX0_stateOf_28 : decode cX0_stateOf 28 = .ok (.goto (-21), 3) := by decide +kernel
theorem dX0_stateOf_31 : decode cX0_stateOf 31 = .ok (.iload_n 2, 1) := by decide +kernel
theorem dX0_stateOf_32 : decode cX0_stateOf 32 = .ok (.ireturn, 1) := by decide +kernel
theorem dX0_goerOf_0 : decode cX0_goerOf 0 = .ok (.iload_n 1, 1) := by decide +kernel
theorem dX0_goerOf_1 : decode cX0_goerOf 1 = .ok (.ifCond .lt 29, 3) := by decide +kernel
theorem dX0_goerOf_4 : decode cX0_goerOf 4 = .ok (.iload_n 1, 1) := by decide +kernel
theorem dX0_goerOf_5 : decode cX0_goerOf 5 = .ok (.aload_n 0, 1) := by decide +kernel
theorem dX0_goerOf_6 : decode cX0_goerOf 6 = .ok (.getfield 28, 3) := by decide +kernel
theorem dX0_goerOf_9 : decode cX0_goerOf 9 = .ok (.if_icmp .ge 21, 3) := by decide +kernel
theorem dX0_goerOf_12 : decode cX0_goerOf 12 = .ok (.iload_n 1, 1) := by decide +kernel
theorem dX0_goerOf_13 : decode cX0_goerOf 13 = .ok (.aload_n 0, 1) := by decide +kernel
theorem dX0_goerOf_14 : decode cX0_goerOf 14 = .ok (.getfield 20, 3) := by decide +kernel
theorem dX0_goerOf_17 : decode cX0_goerOf 17 = .ok (.arraylength, 1) := by decide +kernel
theorem dX0_goerOf_18 : decode cX0_goerOf 18 = .ok (.if_icmp .ge 12, 3) := by decide +kernel
theorem dX0_goerOf_21 : decode cX0_goerOf 21 = .ok (.aload_n 0, 1) := by decide +kernel
theorem dX0_goerOf_22 : decode cX0_goerOf 22 = .ok (.getfield 20, 3) := by decide +kernel
theorem dX0_goerOf_25 : decode cX0_goerOf 25 = .ok (.iload_n 1, 1) := by decide +kernel
theorem dX0_goerOf_26 : decode cX0_goerOf 26 = .ok (.aaload, 1) := by decide +kernel
theorem dX0_goerOf_27 : decode cX0_goerOf 27 = .ok (.goto 4, 3) := by decide +kernel
theorem dX0_goerOf_30 : decode cX0_goerOf 30 = .ok (.aconst_null, 1) := by decide +kernel
theorem dX0_goerOf_31 : decode cX0_goerOf 31 = .ok (.areturn, 1) := by decide +kernel
theorem dX0_turnsOf_0 : decode cX0_turnsOf 0 = .ok (.aload_n 0, 1) := by decide +kernel
theorem dX0_turnsOf_1 : decode cX0_turnsOf 1 = .ok (.iload_n 1, 1) := by decide +kernel
theorem dX0_turnsOf_2 : decode cX0_turnsOf 2 = .ok (.invokevirtual 57, 3) := by decide +kernel
theorem dX0_turnsOf_5 : decode cX0_turnsOf 5 = .ok (.astore_n 2, 1) := by decide +kernel
theorem dX0_turnsOf_6 : decode cX0_turnsOf 6 = .ok (.iconst 0, 1) := by decide +kernel
theorem dX0_turnsOf_7 : decode cX0_turnsOf 7 = .ok (.istore_n 3, 1) := by decide +kernel
theorem dX0_turnsOf_8 : decode cX0_turnsOf 8 = .ok (.aload_n 2, 1) := by decide +kernel
theorem dX0_turnsOf_9 : decode cX0_turnsOf 9 = .ok (.ifnull 38, 3) := by decide +kernel
theorem dX0_turnsOf_12 : decode cX0_turnsOf 12 = .ok (.iconst 1, 1) := by decide +kernel
theorem dX0_turnsOf_13 : decode cX0_turnsOf 13 = .ok (.istore 4, 2) := by decide +kernel
theorem dX0_turnsOf_15 : decode cX0_turnsOf 15 = .ok (.iload 4, 2) := by decide +kernel
theorem dX0_turnsOf_17 : decode cX0_turnsOf 17 = .ok (.aload_n 0, 1) := by decide +kernel
theorem dX0_turnsOf_18 : decode cX0_turnsOf 18 = .ok (.getfield 9, 3) := by decide +kernel
theorem dX0_turnsOf_21 : decode cX0_turnsOf 21 = .ok (.if_icmp .gt 26, 3) := by decide +kernel
theorem dX0_turnsOf_24 : decode cX0_turnsOf 24 = .ok (.aload_n 2, 1) := by decide +kernel
theorem dX0_turnsOf_25 : decode cX0_turnsOf 25 = .ok (.iload 4, 2) := by decide +kernel
theorem dX0_turnsOf_27 : decode cX0_turnsOf 27 = .ok (.invokevirtual 61, 3) := by decide +kernel
theorem dX0_turnsOf_30 : decode cX0_turnsOf 30 = .ok (.ifCond .eq 11, 3) := by decide +kernel
theorem dX0_turnsOf_33 : decode cX0_turnsOf 33 = .ok (.iload_n 3, 1) := by decide +kernel
theorem dX0_turnsOf_34 : decode cX0_turnsOf 34 = .ok (.iload 4, 2) := by decide +kernel
theorem dX0_turnsOf_36 : decode cX0_turnsOf 36 = .ok (.invokestatic 49, 3) := by decide +kernel
theorem dX0_turnsOf_39 : decode cX0_turnsOf 39 = .ok (.ior, 1) := by decide +kernel
theorem dX0_turnsOf_40 : decode cX0_turnsOf 40 = .ok (.istore_n 3, 1) := by decide +kernel
theorem dX0_turnsOf_41 : decode cX0_turnsOf 41 = .ok (.iinc 4 1, 3) := by decide +kernel
theorem dX0_turnsOf_44 : decode cX0_turnsOf 44 = .ok (.goto (-29), 3) := by decide +kernel
theorem dX0_turnsOf_47 : decode cX0_turnsOf 47 = .ok (.iload_n 3, 1) := by decide +kernel
theorem dX0_turnsOf_48 : decode cX0_turnsOf 48 = .ok (.aload_n 0, 1) := by decide +kernel
theorem dX0_turnsOf_49 : decode cX0_turnsOf 49 = .ok (.getfield 31, 3) := by decide +kernel
theorem dX0_turnsOf_52 : decode cX0_turnsOf 52 = .ok (.iconst (-1), 1) := by decide +kernel
theorem dX0_turnsOf_53 : decode cX0_turnsOf 53 = .ok (.ixor, 1) := by decide +kernel
theorem dX0_turnsOf_54 : decode cX0_turnsOf 54 = .ok (.iand, 1) := by decide +kernel
theorem dX0_turnsOf_55 : decode cX0_turnsOf 55 = .ok (.ireturn, 1) := by decide +kernel
theorem dX0_goAlong_0 : decode cX0_goAlong 0 = .ok (.aload_n 0, 1) := by decide +kernel
theorem dX0_goAlong_1 : decode cX0_goAlong 1 = .ok (.iload_n 1, 1) := by decide +kernel
theorem dX0_goAlong_2 : decode cX0_goAlong 2 = .ok (.invokevirtual 65, 3) := by decide +kernel
theorem dX0_goAlong_5 : decode cX0_goAlong 5 = .ok (.istore_n 2, 1) := by decide +kernel
theorem dX0_goAlong_6 : decode cX0_goAlong 6 = .ok (.aload_n 0, 1) := by decide +kernel
theorem dX0_goAlong_7 : decode cX0_goAlong 7 = .ok (.aload_n 0, 1) := by decide +kernel
theorem dX0_goAlong_8 : decode cX0_goAlong 8 = .ok (.getfield 40, 3) := by decide +kernel
theorem dX0_goAlong_11 : decode cX0_goAlong 11 = .ok (.iload_n 2, 1) := by decide +kernel
theorem dX0_goAlong_12 : decode cX0_goAlong 12 = .ok (.aload_n 0, 1) := by decide +kernel
theorem dX0_goAlong_13 : decode cX0_goAlong 13 = .ok (.getfield 15, 3) := by decide +kernel
theorem dX0_goAlong_16 : decode cX0_goAlong 16 = .ok (.invokestatic 68, 3) := by decide +kernel
theorem dX0_goAlong_19 : decode cX0_goAlong 19 = .ok (.putfield 40, 3) := by decide +kernel
theorem dX0_goAlong_22 : decode cX0_goAlong 22 = .ok (.aload_n 0, 1) := by decide +kernel
theorem dX0_goAlong_23 : decode cX0_goAlong 23 = .ok (.dup, 1) := by decide +kernel
theorem dX0_goAlong_24 : decode cX0_goAlong 24 = .ok (.getfield 43, 3) := by decide +kernel
theorem dX0_goAlong_27 : decode cX0_goAlong 27 = .ok (.iconst 1, 1) := by decide +kernel
theorem dX0_goAlong_28 : decode cX0_goAlong 28 = .ok (.iadd, 1) := by decide +kernel
theorem dX0_goAlong_29 : decode cX0_goAlong 29 = .ok (.putfield 43, 3) := by decide +kernel
theorem dX0_goAlong_32 : decode cX0_goAlong 32 = .ok (.iload_n 2, 1) := by decide +kernel
theorem dX0_goAlong_33 : decode cX0_goAlong 33 = .ok (.invokestatic 72, 3) := by decide +kernel
theorem dX0_goAlong_36 : decode cX0_goAlong 36 = .ok (.ireturn, 1) := by decide +kernel
theorem dX0_note_0 : decode cX0_note 0 = .ok (.aload_n 0, 1) := by decide +kernel
theorem dX0_note_1 : decode cX0_note 1 = .ok (.getfield 46, 3) := by decide +kernel
theorem dX0_note_4 : decode cX0_note 4 = .ok (.ifCond .lt 35, 3) := by decide +kernel
theorem dX0_note_7 : decode cX0_note 7 = .ok (.aload_n 0, 1) := by decide +kernel
theorem dX0_note_8 : decode cX0_note 8 = .ok (.getfield 46, 3) := by decide +kernel
theorem dX0_note_11 : decode cX0_note 11 = .ok (.aload_n 0, 1) := by decide +kernel
theorem dX0_note_12 : decode cX0_note 12 = .ok (.getfield 24, 3) := by decide +kernel
theorem dX0_note_15 : decode cX0_note 15 = .ok (.arraylength, 1) := by decide +kernel
theorem dX0_note_16 : decode cX0_note 16 = .ok (.if_icmp .ge 23, 3) := by decide +kernel
theorem dX0_note_19 : decode cX0_note 19 = .ok (.aload_n 0, 1) := by decide +kernel
theorem dX0_note_20 : decode cX0_note 20 = .ok (.getfield 24, 3) := by decide +kernel
theorem dX0_note_23 : decode cX0_note 23 = .ok (.aload_n 0, 1) := by decide +kernel
theorem dX0_note_24 : decode cX0_note 24 = .ok (.getfield 46, 3) := by decide +kernel
theorem dX0_note_27 : decode cX0_note 27 = .ok (.iload_n 1, 1) := by decide +kernel
theorem dX0_note_28 : decode cX0_note 28 = .ok (.iastore, 1) := by decide +kernel
theorem dX0_note_29 : decode cX0_note 29 = .ok (.aload_n 0, 1) := by decide +kernel
theorem dX0_note_30 : decode cX0_note 30 = .ok (.dup, 1) := by decide +kernel
theorem dX0_note_31 : decode cX0_note 31 = .ok (.getfield 46, 3) := by decide +kernel
theorem dX0_note_34 : decode cX0_note 34 = .ok (.iconst 1, 1) := by decide +kernel
theorem dX0_note_35 : decode cX0_note 35 = .ok (.iadd, 1) := by decide +kernel
theorem dX0_note_36 : decode cX0_note 36 = .ok (.putfield 46, 3) := by decide +kernel
theorem dX0_note_39 : decode cX0_note 39 = .ok (.aload_n 0, 1) := by decide +kernel
theorem dX0_note_40 : decode cX0_note 40 = .ok (.getfield 46, 3) := by decide +kernel
theorem dX0_note_43 : decode cX0_note 43 = .ok (.ireturn, 1) := by decide +kernel
theorem dX0_loggedAt_0 : decode cX0_loggedAt 0 = .ok (.iload_n 1, 1) := by decide +kernel
theorem dX0_loggedAt_1 : decode cX0_loggedAt 1 = .ok (.ifCond .lt 29, 3) := by decide +kernel
theorem dX0_loggedAt_4 : decode cX0_loggedAt 4 = .ok (.iload_n 1, 1) := by decide +kernel
theorem dX0_loggedAt_5 : decode cX0_loggedAt 5 = .ok (.aload_n 0, 1) := by decide +kernel
theorem dX0_loggedAt_6 : decode cX0_loggedAt 6 = .ok (.getfield 46, 3) := by decide +kernel
theorem dX0_loggedAt_9 : decode cX0_loggedAt 9 = .ok (.if_icmp .ge 21, 3) := by decide +kernel
theorem dX0_loggedAt_12 : decode cX0_loggedAt 12 = .ok (.iload_n 1, 1) := by decide +kernel
theorem dX0_loggedAt_13 : decode cX0_loggedAt 13 = .ok (.aload_n 0, 1) := by decide +kernel
theorem dX0_loggedAt_14 : decode cX0_loggedAt 14 = .ok (.getfield 24, 3) := by decide +kernel
theorem dX0_loggedAt_17 : decode cX0_loggedAt 17 = .ok (.arraylength, 1) := by decide +kernel
theorem dX0_loggedAt_18 : decode cX0_loggedAt 18 = .ok (.if_icmp .ge 12, 3) := by decide +kernel
theorem dX0_loggedAt_21 : decode cX0_loggedAt 21 = .ok (.aload_n 0, 1) := by decide +kernel
theorem dX0_loggedAt_22 : decode cX0_loggedAt 22 = .ok (.getfield 24, 3) := by decide +kernel
theorem dX0_loggedAt_25 : decode cX0_loggedAt 25 = .ok (.iload_n 1, 1) := by decide +kernel
theorem dX0_loggedAt_26 : decode cX0_loggedAt 26 = .ok (.iaload, 1) := by decide +kernel
theorem dX0_loggedAt_27 : decode cX0_loggedAt 27 = .ok (.goto 5, 3) := by decide +kernel
theorem dX0_loggedAt_30 : decode cX0_loggedAt 30 = .ok (.bipush 9, 2) := by decide +kernel
theorem dX0_loggedAt_32 : decode cX0_loggedAt 32 = .ok (.ireturn, 1) := by decide +kernel
theorem dX0_unknown_0 : decode cX0_unknown 0 = .ok (.iconst 0, 1) := by decide +kernel
theorem dX0_unknown_1 : decode cX0_unknown 1 = .ok (.istore_n 1, 1) := by decide +kernel
theorem dX0_unknown_2 : decode cX0_unknown 2 = .ok (.iconst 0, 1) := by decide +kernel
theorem dX0_unknown_3 : decode cX0_unknown 3 = .ok (.istore_n 2, 1) := by decide +kernel
theorem dX0_unknown_4 : decode cX0_unknown 4 = .ok (.iload_n 2, 1) := by decide +kernel
theorem dX0_unknown_5 : decode cX0_unknown 5 = .ok (.aload_n 0, 1) := by decide +kernel
theorem dX0_unknown_6 : decode cX0_unknown 6 = .ok (.getfield 46, 3) := by decide +kernel
theorem dX0_unknown_9 : decode cX0_unknown 9 = .ok (.if_icmp .ge 22, 3) := by decide +kernel
theorem dX0_unknown_12 : decode cX0_unknown 12 = .ok (.aload_n 0, 1) := by decide +kernel
theorem dX0_unknown_13 : decode cX0_unknown 13 = .ok (.iload_n 2, 1) := by decide +kernel
theorem dX0_unknown_14 : decode cX0_unknown 14 = .ok (.invokevirtual 77, 3) := by decide +kernel
theorem dX0_unknown_17 : decode cX0_unknown 17 = .ok (.bipush 9, 2) := by decide +kernel
theorem dX0_unknown_19 : decode cX0_unknown 19 = .ok (.if_icmp .ne 6, 3) := by decide +kernel
theorem dX0_unknown_22 : decode cX0_unknown 22 = .ok (.iinc 1 1, 3) := by decide +kernel
theorem dX0_unknown_25 : decode cX0_unknown 25 = .ok (.iinc 2 1, 3) := by decide +kernel
theorem dX0_unknown_28 : decode cX0_unknown 28 = .ok (.goto (-24), 3) := by decide +kernel
theorem dX0_unknown_31 : decode cX0_unknown 31 = .ok (.iload_n 1, 1) := by decide +kernel
theorem dX0_unknown_32 : decode cX0_unknown 32 = .ok (.ireturn, 1) := by decide +kernel
theorem dX0_behindLog_0 : decode cX0_behindLog 0 = .ok (.iload_n 1, 1) := by decide +kernel
theorem dX0_behindLog_1 : decode cX0_behindLog 1 = .ok (.istore_n 2, 1) := by decide +kernel
theorem dX0_behindLog_2 : decode cX0_behindLog 2 = .ok (.iconst 0, 1) := by decide +kernel
theorem dX0_behindLog_3 : decode cX0_behindLog 3 = .ok (.istore_n 3, 1) := by decide +kernel
theorem dX0_behindLog_4 : decode cX0_behindLog 4 = .ok (.iload_n 3, 1) := by decide +kernel
theorem dX0_behindLog_5 : decode cX0_behindLog 5 = .ok (.aload_n 0, 1) := by decide +kernel
theorem dX0_behindLog_6 : decode cX0_behindLog 6 = .ok (.getfield 46, 3) := by decide +kernel
theorem dX0_behindLog_9 : decode cX0_behindLog 9 = .ok (.if_icmp .ge 27, 3) := by decide +kernel
theorem dX0_behindLog_12 : decode cX0_behindLog 12 = .ok (.iload_n 2, 1) := by decide +kernel
theorem dX0_behindLog_13 : decode cX0_behindLog 13 = .ok (.aload_n 0, 1) := by decide +kernel
theorem dX0_behindLog_14 : decode cX0_behindLog 14 = .ok (.aload_n 0, 1) := by decide +kernel
theorem dX0_behindLog_15 : decode cX0_behindLog 15 = .ok (.iload_n 3, 1) := by decide +kernel
theorem dX0_behindLog_16 : decode cX0_behindLog 16 = .ok (.invokevirtual 77, 3) := by decide +kernel
theorem dX0_behindLog_19 : decode cX0_behindLog 19 = .ok (.invokevirtual 65, 3) := by decide +kernel
theorem dX0_behindLog_22 : decode cX0_behindLog 22 = .ok (.aload_n 0, 1) := by decide +kernel
theorem dX0_behindLog_23 : decode cX0_behindLog 23 = .ok (.getfield 15, 3) := by decide +kernel
theorem dX0_behindLog_26 : decode cX0_behindLog 26 = .ok (.invokestatic 68, 3) := by decide +kernel
theorem dX0_behindLog_29 : decode cX0_behindLog 29 = .ok (.istore_n 2, 1) := by decide +kernel
theorem dX0_behindLog_30 : decode cX0_behindLog 30 = .ok (.iinc 3 1, 3) := by decide +kernel
theorem dX0_behindLog_33 : decode cX0_behindLog 33 = .ok (.goto (-29), 3) := by decide +kernel
theorem dX0_behindLog_36 : decode cX0_behindLog 36 = .ok (.iload_n 2, 1) := by decide +kernel
theorem dX0_behindLog_37 : decode cX0_behindLog 37 = .ok (.ireturn, 1) := by decide +kernel
theorem dX0_obeys_0 : decode cX0_obeys 0 = .ok (.aload_n 1, 1) := by decide +kernel
theorem dX0_obeys_1 : decode cX0_obeys 1 = .ok (.getfield 80, 3) := by decide +kernel
theorem dX0_obeys_4 : decode cX0_obeys 4 = .ok (.tableswitch 128 104 119 #[122, 128, 128, 90, 128, 128, 80, 128, 100, 128, 128, 106, 128, 128, 128, 116], 80) := by decide +kernel
theorem dX0_obeys_84 : decode cX0_obeys 84 = .ok (.aload_n 0, 1) := by decide +kernel
theorem dX0_obeys_85 : decode cX0_obeys 85 = .ok (.aload_n 1, 1) := by decide +kernel
theorem dX0_obeys_86 : decode cX0_obeys 86 = .ok (.iconst 0, 1) := by decide +kernel
theorem dX0_obeys_87 : decode cX0_obeys 87 = .ok (.invokevirtual 85, 3) := by decide +kernel
theorem dX0_obeys_90 : decode cX0_obeys 90 = .ok (.invokevirtual 88, 3) := by decide +kernel
theorem dX0_obeys_93 : decode cX0_obeys 93 = .ok (.ireturn, 1) := by decide +kernel
theorem dX0_obeys_94 : decode cX0_obeys 94 = .ok (.aload_n 0, 1) := by decide +kernel
theorem dX0_obeys_95 : decode cX0_obeys 95 = .ok (.aload_n 1, 1) := by decide +kernel
theorem dX0_obeys_96 : decode cX0_obeys 96 = .ok (.iconst 0, 1) := by decide +kernel
theorem dX0_obeys_97 : decode cX0_obeys 97 = .ok (.invokevirtual 85, 3) := by decide +kernel
theorem dX0_obeys_100 : decode cX0_obeys 100 = .ok (.invokevirtual 91, 3) := by decide +kernel
theorem dX0_obeys_103 : decode cX0_obeys 103 = .ok (.ireturn, 1) := by decide +kernel
theorem dX0_obeys_104 : decode cX0_obeys 104 = .ok (.aload_n 0, 1) := by decide +kernel
theorem dX0_obeys_105 : decode cX0_obeys 105 = .ok (.aload_n 1, 1) := by decide +kernel
theorem dX0_obeys_106 : decode cX0_obeys 106 = .ok (.invokevirtual 94, 3) := by decide +kernel
theorem dX0_obeys_109 : decode cX0_obeys 109 = .ok (.ireturn, 1) := by decide +kernel
theorem dX0_obeys_110 : decode cX0_obeys 110 = .ok (.aload_n 0, 1) := by decide +kernel
theorem dX0_obeys_111 : decode cX0_obeys 111 = .ok (.aload_n 1, 1) := by decide +kernel
theorem dX0_obeys_112 : decode cX0_obeys 112 = .ok (.iconst 0, 1) := by decide +kernel
theorem dX0_obeys_113 : decode cX0_obeys 113 = .ok (.invokevirtual 85, 3) := by decide +kernel
theorem dX0_obeys_116 : decode cX0_obeys 116 = .ok (.invokevirtual 98, 3) := by decide +kernel
theorem dX0_obeys_119 : decode cX0_obeys 119 = .ok (.ireturn, 1) := by decide +kernel
theorem dX0_obeys_120 : decode cX0_obeys 120 = .ok (.aload_n 0, 1) := by decide +kernel
theorem dX0_obeys_121 : decode cX0_obeys 121 = .ok (.aload_n 1, 1) := by decide +kernel
theorem dX0_obeys_122 : decode cX0_obeys 122 = .ok (.invokevirtual 101, 3) := by decide +kernel
theorem dX0_obeys_125 : decode cX0_obeys 125 = .ok (.ireturn, 1) := by decide +kernel
theorem dX0_obeys_126 : decode cX0_obeys 126 = .ok (.aload_n 0, 1) := by decide +kernel
theorem dX0_obeys_127 : decode cX0_obeys 127 = .ok (.aload_n 1, 1) := by decide +kernel
theorem dX0_obeys_128 : decode cX0_obeys 128 = .ok (.invokevirtual 104, 3) := by decide +kernel
theorem dX0_obeys_131 : decode cX0_obeys 131 = .ok (.ireturn, 1) := by decide +kernel
theorem dX0_obeys_132 : decode cX0_obeys 132 = .ok (.iconst 0, 1) := by decide +kernel
theorem dX0_obeys_133 : decode cX0_obeys 133 = .ok (.ireturn, 1) := by decide +kernel
theorem dX0_obeysDoors_0 : decode cX0_obeysDoors 0 = .ok (.iload_n 1, 1) := by decide +kernel
theorem dX0_obeysDoors_1 : decode cX0_obeysDoors 1 = .ok (.iconst 1, 1) := by decide +kernel
theorem dX0_obeysDoors_2 : decode cX0_obeysDoors 2 = .ok (.if_icmp .lt 9, 3) := by decide +kernel
theorem dX0_obeysDoors_5 : decode cX0_obeysDoors 5 = .ok (.iload_n 1, 1) := by decide +kernel
theorem dX0_obeysDoors_6 : decode cX0_obeysDoors 6 = .ok (.bipush 12, 2) := by decide +kernel
theorem dX0_obeysDoors_8 : decode cX0_obeysDoors 8 = .ok (.if_icmp .le 5, 3) := by decide +kernel
theorem dX0_obeysDoors_11 : decode cX0_obeysDoors 11 = .ok (.iconst 0, 1) := by decide +kernel
theorem dX0_obeysDoors_12 : decode cX0_obeysDoors 12 = .ok (.ireturn, 1) := by decide +kernel
theorem dX0_obeysDoors_13 : decode cX0_obeysDoors 13 = .ok (.aload_n 0, 1) := by decide +kernel
theorem dX0_obeysDoors_14 : decode cX0_obeysDoors 14 = .ok (.iload_n 1, 1) := by decide +kernel
theorem dX0_obeysDoors_15 : decode cX0_obeysDoors 15 = .ok (.putfield 9, 3) := by decide +kernel
theorem dX0_obeysDoors_18 : decode cX0_obeysDoors 18 = .ok (.aload_n 0, 1) := by decide +kernel
theorem dX0_obeysDoors_19 : decode cX0_obeysDoors 19 = .ok (.invokevirtual 107, 3) := by decide +kernel
theorem dX0_obeysDoors_22 : decode cX0_obeysDoors 22 = .ok (.iconst 1, 1) := by decide +kernel
theorem dX0_obeysDoors_23 : decode cX0_obeysDoors 23 = .ok (.ireturn, 1) := by decide +kernel
theorem dX0_obeysColours_0 : decode cX0_obeysColours 0 = .ok (.iload_n 1, 1) := by decide +kernel
theorem dX0_obeysColours_1 : decode cX0_obeysColours 1 = .ok (.iconst 2, 1) := by decide +kernel
theorem dX0_obeysColours_2 : decode cX0_obeysColours 2 = .ok (.if_icmp .lt 8, 3) := by decide +kernel
theorem dX0_obeysColours_5 : decode cX0_obeysColours 5 = .ok (.iload_n 1, 1) := by decide +kernel
theorem dX0_obeysColours_6 : decode cX0_obeysColours 6 = .ok (.iconst 3, 1) := by decide +kernel
theorem dX0_obeysColours_7 : decode cX0_obeysColours 7 = .ok (.if_icmp .le 5, 3) := by decide +kernel
theorem dX0_obeysColours_10 : decode cX0_obeysColours 10 = .ok (.iconst 0, 1) := by decide +kernel
theorem dX0_obeysColours_11 : decode cX0_obeysColours 11 = .ok (.ireturn, 1) := by decide +kernel
theorem dX0_obeysColours_12 : decode cX0_obeysColours 12 = .ok (.aload_n 0, 1) := by decide +kernel
theorem dX0_obeysColours_13 : decode cX0_obeysColours 13 = .ok (.iload_n 1, 1) := by decide +kernel
theorem dX0_obeysColours_14 : decode cX0_obeysColours 14 = .ok (.putfield 15, 3) := by decide +kernel
theorem dX0_obeysColours_17 : decode cX0_obeysColours 17 = .ok (.aload_n 0, 1) := by decide +kernel
theorem dX0_obeysColours_18 : decode cX0_obeysColours 18 = .ok (.invokevirtual 107, 3) := by decide +kernel
theorem dX0_obeysColours_21 : decode cX0_obeysColours 21 = .ok (.iconst 1, 1) := by decide +kernel
theorem dX0_obeysColours_22 : decode cX0_obeysColours 22 = .ok (.ireturn, 1) := by decide +kernel
theorem dX0_empty_0 : decode cX0_empty 0 = .ok (.aload_n 0, 1) := by decide +kernel
theorem dX0_empty_1 : decode cX0_empty 1 = .ok (.iconst 0, 1) := by decide +kernel
theorem dX0_empty_2 : decode cX0_empty 2 = .ok (.putfield 40, 3) := by decide +kernel
theorem dX0_empty_5 : decode cX0_empty 5 = .ok (.aload_n 0, 1) := by decide +kernel
theorem dX0_empty_6 : decode cX0_empty 6 = .ok (.iconst 0, 1) := by decide +kernel
theorem dX0_empty_7 : decode cX0_empty 7 = .ok (.putfield 31, 3) := by decide +kernel
theorem dX0_empty_10 : decode cX0_empty 10 = .ok (.aload_n 0, 1) := by decide +kernel
theorem dX0_empty_11 : decode cX0_empty 11 = .ok (.iconst 0, 1) := by decide +kernel
theorem dX0_empty_12 : decode cX0_empty 12 = .ok (.putfield 34, 3) := by decide +kernel
theorem dX0_empty_15 : decode cX0_empty 15 = .ok (.aload_n 0, 1) := by decide +kernel
theorem dX0_empty_16 : decode cX0_empty 16 = .ok (.iconst 0, 1) := by decide +kernel
theorem dX0_empty_17 : decode cX0_empty 17 = .ok (.putfield 37, 3) := by decide +kernel
theorem dX0_empty_20 : decode cX0_empty 20 = .ok (.return_, 1) := by decide +kernel
theorem dX0_obeysPerson_0 : decode cX0_obeysPerson 0 = .ok (.aload_n 1, 1) := by decide +kernel
theorem dX0_obeysPerson_1 : decode cX0_obeysPerson 1 = .ok (.iconst 0, 1) := by decide +kernel
theorem dX0_obeysPerson_2 : decode cX0_obeysPerson 2 = .ok (.invokevirtual 85, 3) := by decide +kernel
theorem dX0_obeysPerson_5 : decode cX0_obeysPerson 5 = .ok (.istore_n 2, 1) := by decide +kernel
theorem dX0_obeysPerson_6 : decode cX0_obeysPerson 6 = .ok (.aload_n 1, 1) := by decide +kernel
theorem dX0_obeysPerson_7 : decode cX0_obeysPerson 7 = .ok (.iconst 1, 1) := by decide +kernel
theorem dX0_obeysPerson_8 : decode cX0_obeysPerson 8 = .ok (.invokevirtual 85, 3) := by decide +kernel
theorem dX0_obeysPerson_11 : decode cX0_obeysPerson 11 = .ok (.istore_n 3, 1) := by decide +kernel
theorem dX0_obeysPerson_12 : decode cX0_obeysPerson 12 = .ok (.iload_n 2, 1) := by decide +kernel
theorem dX0_obeysPerson_13 : decode cX0_obeysPerson 13 = .ok (.invokestatic 110, 3) := by decide +kernel
theorem dX0_obeysPerson_16 : decode cX0_obeysPerson 16 = .ok (.ifCond .eq 10, 3) := by decide +kernel
theorem dX0_obeysPerson_19 : decode cX0_obeysPerson 19 = .ok (.iload_n 3, 1) := by decide +kernel
theorem dX0_obeysPerson_20 : decode cX0_obeysPerson 20 = .ok (.invokestatic 110, 3) := by decide +kernel
theorem dX0_obeysPerson_23 : decode cX0_obeysPerson 23 = .ok (.ifCond .ne 5, 3) := by decide +kernel
theorem dX0_obeysPerson_26 : decode cX0_obeysPerson 26 = .ok (.iconst 0, 1) := by decide +kernel
theorem dX0_obeysPerson_27 : decode cX0_obeysPerson 27 = .ok (.ireturn, 1) := by decide +kernel
theorem dX0_obeysPerson_28 : decode cX0_obeysPerson 28 = .ok (.aload_n 0, 1) := by decide +kernel
theorem dX0_obeysPerson_29 : decode cX0_obeysPerson 29 = .ok (.getfield 28, 3) := by decide +kernel
theorem dX0_obeysPerson_32 : decode cX0_obeysPerson 32 = .ok (.ifCond .lt 15, 3) := by decide +kernel
theorem dX0_obeysPerson_35 : decode cX0_obeysPerson 35 = .ok (.aload_n 0, 1) := by decide +kernel
theorem dX0_obeysPerson_36 : decode cX0_obeysPerson 36 = .ok (.getfield 28, 3) := by decide +kernel
theorem dX0_obeysPerson_39 : decode cX0_obeysPerson 39 = .ok (.aload_n 0, 1) := by decide +kernel
theorem dX0_obeysPerson_40 : decode cX0_obeysPerson 40 = .ok (.getfield 20, 3) := by decide +kernel
theorem dX0_obeysPerson_43 : decode cX0_obeysPerson 43 = .ok (.arraylength, 1) := by decide +kernel
theorem dX0_obeysPerson_44 : decode cX0_obeysPerson 44 = .ok (.if_icmp .lt 5, 3) := by decide +kernel
theorem dX0_obeysPerson_47 : decode cX0_obeysPerson 47 = .ok (.iconst 0, 1) := by decide +kernel
theorem dX0_obeysPerson_48 : decode cX0_obeysPerson 48 = .ok (.ireturn, 1) := by decide +kernel
theorem dX0_obeysPerson_49 : decode cX0_obeysPerson 49 = .ok (.aload_n 0, 1) := by decide +kernel
theorem dX0_obeysPerson_50 : decode cX0_obeysPerson 50 = .ok (.getfield 20, 3) := by decide +kernel
theorem dX0_obeysPerson_53 : decode cX0_obeysPerson 53 = .ok (.aload_n 0, 1) := by decide +kernel
theorem dX0_obeysPerson_54 : decode cX0_obeysPerson 54 = .ok (.getfield 28, 3) := by decide +kernel
theorem dX0_obeysPerson_57 : decode cX0_obeysPerson 57 = .ok (.new 18, 3) := by decide +kernel
theorem dX0_obeysPerson_60 : decode cX0_obeysPerson 60 = .ok (.dup, 1) := by decide +kernel
theorem dX0_obeysPerson_61 : decode cX0_obeysPerson 61 = .ok (.aload_n 1, 1) := by decide +kernel
theorem dX0_obeysPerson_62 : decode cX0_obeysPerson 62 = .ok (.getfield 113, 3) := by decide +kernel
theorem dX0_obeysPerson_65 : decode cX0_obeysPerson 65 = .ok (.iload_n 2, 1) := by decide +kernel
theorem dX0_obeysPerson_66 : decode cX0_obeysPerson 66 = .ok (.iload_n 3, 1) := by decide +kernel
theorem dX0_obeysPerson_67 : decode cX0_obeysPerson 67 = .ok (.aload_n 1, 1) := by decide +kernel
theorem dX0_obeysPerson_68 : decode cX0_obeysPerson 68 = .ok (.iconst 2, 1) := by decide +kernel
theorem dX0_obeysPerson_69 : decode cX0_obeysPerson 69 = .ok (.invokevirtual 85, 3) := by decide +kernel
theorem dX0_obeysPerson_72 : decode cX0_obeysPerson 72 = .ok (.invokespecial 116, 3) := by decide +kernel
theorem dX0_obeysPerson_75 : decode cX0_obeysPerson 75 = .ok (.aastore, 1) := by decide +kernel
theorem dX0_obeysPerson_76 : decode cX0_obeysPerson 76 = .ok (.aload_n 0, 1) := by decide +kernel
theorem dX0_obeysPerson_77 : decode cX0_obeysPerson 77 = .ok (.dup, 1) := by decide +kernel
theorem dX0_obeysPerson_78 : decode cX0_obeysPerson 78 = .ok (.getfield 28, 3) := by decide +kernel
theorem dX0_obeysPerson_81 : decode cX0_obeysPerson 81 = .ok (.iconst 1, 1) := by decide +kernel
theorem dX0_obeysPerson_82 : decode cX0_obeysPerson 82 = .ok (.iadd, 1) := by decide +kernel
theorem dX0_obeysPerson_83 : decode cX0_obeysPerson 83 = .ok (.putfield 28, 3) := by decide +kernel
theorem dX0_obeysPerson_86 : decode cX0_obeysPerson 86 = .ok (.iconst 1, 1) := by decide +kernel
theorem dX0_obeysPerson_87 : decode cX0_obeysPerson 87 = .ok (.ireturn, 1) := by decide +kernel
theorem dX0_isGoerNumber_0 : decode cX0_isGoerNumber 0 = .ok (.iload_n 0, 1) := by decide +kernel
theorem dX0_isGoerNumber_1 : decode cX0_isGoerNumber 1 = .ok (.iconst 1, 1) := by decide +kernel
theorem dX0_isGoerNumber_2 : decode cX0_isGoerNumber 2 = .ok (.if_icmp .lt 13, 3) := by decide +kernel
theorem dX0_isGoerNumber_5 : decode cX0_isGoerNumber 5 = .ok (.iload_n 0, 1) := by decide +kernel
theorem dX0_isGoerNumber_6 : decode cX0_isGoerNumber 6 = .ok (.bipush 12, 2) := by decide +kernel
theorem dX0_isGoerNumber_8 : decode cX0_isGoerNumber 8 = .ok (.if_icmp .gt 7, 3) := by decide +kernel
theorem dX0_isGoerNumber_11 : decode cX0_isGoerNumber 11 = .ok (.iconst 1, 1) := by decide +kernel
theorem dX0_isGoerNumber_12 : decode cX0_isGoerNumber 12 = .ok (.goto 4, 3) := by decide +kernel
theorem dX0_isGoerNumber_15 : decode cX0_isGoerNumber 15 = .ok (.iconst 0, 1) := by decide +kernel
theorem dX0_isGoerNumber_16 : decode cX0_isGoerNumber 16 = .ok (.ireturn, 1) := by decide +kernel
theorem dX0_obeysStuck_0 : decode cX0_obeysStuck 0 = .ok (.aload_n 0, 1) := by decide +kernel
theorem dX0_obeysStuck_1 : decode cX0_obeysStuck 1 = .ok (.iload_n 1, 1) := by decide +kernel
theorem dX0_obeysStuck_2 : decode cX0_obeysStuck 2 = .ok (.invokevirtual 119, 3) := by decide +kernel
theorem dX0_obeysStuck_5 : decode cX0_obeysStuck 5 = .ok (.ifCond .ne 5, 3) := by decide +kernel
theorem dX0_obeysStuck_8 : decode cX0_obeysStuck 8 = .ok (.iconst 0, 1) := by decide +kernel
theorem dX0_obeysStuck_9 : decode cX0_obeysStuck 9 = .ok (.ireturn, 1) := by decide +kernel
theorem dX0_obeysStuck_10 : decode cX0_obeysStuck 10 = .ok (.aload_n 0, 1) := by decide +kernel
theorem dX0_obeysStuck_11 : decode cX0_obeysStuck 11 = .ok (.dup, 1) := by decide +kernel
theorem dX0_obeysStuck_12 : decode cX0_obeysStuck 12 = .ok (.getfield 31, 3) := by decide +kernel
theorem dX0_obeysStuck_15 : decode cX0_obeysStuck 15 = .ok (.iload_n 1, 1) := by decide +kernel
theorem dX0_obeysStuck_16 : decode cX0_obeysStuck 16 = .ok (.invokestatic 49, 3) := by decide +kernel
theorem dX0_obeysStuck_19 : decode cX0_obeysStuck 19 = .ok (.ixor, 1) := by decide +kernel
theorem dX0_obeysStuck_20 : decode cX0_obeysStuck 20 = .ok (.putfield 31, 3) := by decide +kernel
theorem dX0_obeysStuck_23 : decode cX0_obeysStuck 23 = .ok (.iconst 1, 1) := by decide +kernel
theorem dX0_obeysStuck_24 : decode cX0_obeysStuck 24 = .ok (.ireturn, 1) := by decide +kernel
theorem dX0_obeysWish_0 : decode cX0_obeysWish 0 = .ok (.aload_n 1, 1) := by decide +kernel
theorem dX0_obeysWish_1 : decode cX0_obeysWish 1 = .ok (.getfield 122, 3) := by decide +kernel
theorem dX0_obeysWish_4 : decode cX0_obeysWish 4 = .ok (.aload_n 0, 1) := by decide +kernel
theorem dX0_obeysWish_5 : decode cX0_obeysWish 5 = .ok (.getfield 9, 3) := by decide +kernel
theorem dX0_obeysWish_8 : decode cX0_obeysWish 8 = .ok (.if_icmp .eq 5, 3) := by decide +kernel
theorem dX0_obeysWish_11 : decode cX0_obeysWish 11 = .ok (.iconst 0, 1) := by decide +kernel
theorem dX0_obeysWish_12 : decode cX0_obeysWish 12 = .ok (.ireturn, 1) := by decide +kernel
theorem dX0_obeysWish_13 : decode cX0_obeysWish 13 = .ok (.iconst 0, 1) := by decide +kernel
theorem dX0_obeysWish_14 : decode cX0_obeysWish 14 = .ok (.istore_n 2, 1) := by decide +kernel
theorem dX0_obeysWish_15 : decode cX0_obeysWish 15 = .ok (.iconst 0, 1) := by decide +kernel
theorem dX0_obeysWish_16 : decode cX0_obeysWish 16 = .ok (.istore_n 3, 1) := by decide +kernel
theorem dX0_obeysWish_17 : decode cX0_obeysWish 17 = .ok (.iconst 1, 1) := by decide +kernel
theorem dX0_obeysWish_18 : decode cX0_obeysWish 18 = .ok (.istore 4, 2) := by decide +kernel
theorem dX0_obeysWish_20 : decode cX0_obeysWish 20 = .ok (.iload 4, 2) := by decide +kernel
theorem dX0_obeysWish_22 : decode cX0_obeysWish 22 = .ok (.aload_n 0, 1) := by decide +kernel
theorem dX0_obeysWish_23 : decode cX0_obeysWish 23 = .ok (.getfield 9, 3) := by decide +kernel
theorem dX0_obeysWish_26 : decode cX0_obeysWish 26 = .ok (.if_icmp .gt 63, 3) := by decide +kernel
theorem dX0_obeysWish_29 : decode cX0_obeysWish 29 = .ok (.aload_n 1, 1) := by decide +kernel
theorem dX0_obeysWish_30 : decode cX0_obeysWish 30 = .ok (.iload 4, 2) := by decide +kernel
theorem dX0_obeysWish_32 : decode cX0_obeysWish 32 = .ok (.iconst 1, 1) := by decide +kernel
theorem dX0_obeysWish_33 : decode cX0_obeysWish 33 = .ok (.isub, 1) := by decide +kernel
theorem dX0_obeysWish_34 : decode cX0_obeysWish 34 = .ok (.invokevirtual 125, 3) := by decide +kernel
theorem dX0_obeysWish_37 : decode cX0_obeysWish 37 = .ok (.istore 5, 2) := by decide +kernel
theorem dX0_obeysWish_39 : decode cX0_obeysWish 39 = .ok (.iload 5, 2) := by decide +kernel
theorem dX0_obeysWish_41 : decode cX0_obeysWish 41 = .ok (.bipush 9, 2) := by decide +kernel
theorem dX0_obeysWish_43 : decode cX0_obeysWish 43 = .ok (.if_icmp .eq 40, 3) := by decide +kernel
theorem dX0_obeysWish_46 : decode cX0_obeysWish 46 = .ok (.iload 5, 2) := by decide +kernel
theorem dX0_obeysWish_48 : decode cX0_obeysWish 48 = .ok (.aload_n 0, 1) := by decide +kernel
theorem dX0_obeysWish_49 : decode cX0_obeysWish 49 = .ok (.getfield 15, 3) := by decide +kernel
theorem dX0_obeysWish_52 : decode cX0_obeysWish 52 = .ok (.if_icmp .lt 5, 3) := by decide +kernel
theorem dX0_obeysWish_55 : decode cX0_obeysWish 55 = .ok (.iconst 0, 1) := by decide +kernel
theorem dX0_obeysWish_56 : decode cX0_obeysWish 56 = .ok (.ireturn, 1) := by decide +kernel
theorem dX0_obeysWish_57 : decode cX0_obeysWish 57 = .ok (.iload_n 2, 1) := by decide +kernel
theorem dX0_obeysWish_58 : decode cX0_obeysWish 58 = .ok (.iload 4, 2) := by decide +kernel
theorem dX0_obeysWish_60 : decode cX0_obeysWish 60 = .ok (.iconst 1, 1) := by decide +kernel
theorem dX0_obeysWish_61 : decode cX0_obeysWish 61 = .ok (.invokestatic 128, 3) := by decide +kernel
theorem dX0_obeysWish_64 : decode cX0_obeysWish 64 = .ok (.iload 4, 2) := by decide +kernel
theorem dX0_obeysWish_66 : decode cX0_obeysWish 66 = .ok (.iconst 2, 1) := by decide +kernel
theorem dX0_obeysWish_67 : decode cX0_obeysWish 67 = .ok (.invokestatic 128, 3) := by decide +kernel
theorem dX0_obeysWish_70 : decode cX0_obeysWish 70 = .ok (.ior, 1) := by decide +kernel
theorem dX0_obeysWish_71 : decode cX0_obeysWish 71 = .ok (.ior, 1) := by decide +kernel
theorem dX0_obeysWish_72 : decode cX0_obeysWish 72 = .ok (.istore_n 2, 1) := by decide +kernel
theorem dX0_obeysWish_73 : decode cX0_obeysWish 73 = .ok (.iload_n 3, 1) := by decide +kernel
theorem dX0_obeysWish_74 : decode cX0_obeysWish 74 = .ok (.iload 4, 2) := by decide +kernel
theorem dX0_obeysWish_76 : decode cX0_obeysWish 76 = .ok (.iload 5, 2) := by decide +kernel
theorem dX0_obeysWish_78 : decode cX0_obeysWish 78 = .ok (.invokestatic 128, 3) := by decide +kernel
theorem dX0_obeysWish_81 : decode cX0_obeysWish 81 = .ok (.ior, 1) := by decide +kernel
theorem dX0_obeysWish_82 : decode cX0_obeysWish 82 = .ok (.istore_n 3, 1) := by decide +kernel
theorem dX0_obeysWish_83 : decode cX0_obeysWish 83 = .ok (.iinc 4 1, 3) := by decide +kernel
theorem dX0_obeysWish_86 : decode cX0_obeysWish 86 = .ok (.goto (-66), 3) := by decide +kernel
theorem dX0_obeysWish_89 : decode cX0_obeysWish 89 = .ok (.aload_n 0, 1) := by decide +kernel
theorem dX0_obeysWish_90 : decode cX0_obeysWish 90 = .ok (.iload_n 2, 1) := by decide +kernel
theorem dX0_obeysWish_91 : decode cX0_obeysWish 91 = .ok (.putfield 34, 3) := by decide +kernel
theorem dX0_obeysWish_94 : decode cX0_obeysWish 94 = .ok (.aload_n 0, 1) := by decide +kernel
theorem dX0_obeysWish_95 : decode cX0_obeysWish 95 = .ok (.iload_n 3, 1) := by decide +kernel
theorem dX0_obeysWish_96 : decode cX0_obeysWish 96 = .ok (.putfield 37, 3) := by decide +kernel
theorem dX0_obeysWish_99 : decode cX0_obeysWish 99 = .ok (.iconst 1, 1) := by decide +kernel
theorem dX0_obeysWish_100 : decode cX0_obeysWish 100 = .ok (.ireturn, 1) := by decide +kernel
theorem dX0_obeysStand_0 : decode cX0_obeysStand 0 = .ok (.aload_n 1, 1) := by decide +kernel
theorem dX0_obeysStand_1 : decode cX0_obeysStand 1 = .ok (.getfield 122, 3) := by decide +kernel
theorem dX0_obeysStand_4 : decode cX0_obeysStand 4 = .ok (.aload_n 0, 1) := by decide +kernel
theorem dX0_obeysStand_5 : decode cX0_obeysStand 5 = .ok (.getfield 9, 3) := by decide +kernel
theorem dX0_obeysStand_8 : decode cX0_obeysStand 8 = .ok (.if_icmp .eq 5, 3) := by decide +kernel
theorem dX0_obeysStand_11 : decode cX0_obeysStand 11 = .ok (.iconst 0, 1) := by decide +kernel
theorem dX0_obeysStand_12 : decode cX0_obeysStand 12 = .ok (.ireturn, 1) := by decide +kernel
theorem dX0_obeysStand_13 : decode cX0_obeysStand 13 = .ok (.iconst 0, 1) := by decide +kernel
theorem dX0_obeysStand_14 : decode cX0_obeysStand 14 = .ok (.istore_n 2, 1) := by decide +kernel
theorem dX0_obeysStand_15 : decode cX0_obeysStand 15 = .ok (.iconst 1, 1) := by decide +kernel
theorem dX0_obeysStand_16 : decode cX0_obeysStand 16 = .ok (.istore_n 3, 1) := by decide +kernel
theorem dX0_obeysStand_17 : decode cX0_obeysStand 17 = .ok (.iload_n 3, 1) := by decide +kernel
theorem dX0_obeysStand_18 : decode cX0_obeysStand 18 = .ok (.aload_n 0, 1) := by decide +kernel
theorem dX0_obeysStand_19 : decode cX0_obeysStand 19 = .ok (.getfield 9, 3) := by decide +kernel
theorem dX0_obeysStand_22 : decode cX0_obeysStand 22 = .ok (.if_icmp .gt 38, 3) := by decide +kernel
theorem dX0_obeysStand_25 : decode cX0_obeysStand 25 = .ok (.aload_n 1, 1) := by decide +kernel
theorem dX0_obeysStand_26 : decode cX0_obeysStand 26 = .ok (.iload_n 3, 1) := by decide +kernel
theorem dX0_obeysStand_27 : decode cX0_obeysStand 27 = .ok (.iconst 1, 1) := by decide +kernel
theorem dX0_obeysStand_28 : decode cX0_obeysStand 28 = .ok (.isub, 1) := by decide +kernel
theorem dX0_obeysStand_29 : decode cX0_obeysStand 29 = .ok (.invokevirtual 125, 3) := by decide +kernel
theorem dX0_obeysStand_32 : decode cX0_obeysStand 32 = .ok (.istore 4, 2) := by decide +kernel
theorem dX0_obeysStand_34 : decode cX0_obeysStand 34 = .ok (.iload 4, 2) := by decide +kernel
theorem dX0_obeysStand_36 : decode cX0_obeysStand 36 = .ok (.aload_n 0, 1) := by decide +kernel
theorem dX0_obeysStand_37 : decode cX0_obeysStand 37 = .ok (.getfield 15, 3) := by decide +kernel
theorem dX0_obeysStand_40 : decode cX0_obeysStand 40 = .ok (.if_icmp .lt 5, 3) := by decide +kernel
theorem dX0_obeysStand_43 : decode cX0_obeysStand 43 = .ok (.iconst 0, 1) := by decide +kernel
theorem dX0_obeysStand_44 : decode cX0_obeysStand 44 = .ok (.ireturn, 1) := by decide +kernel
theorem dX0_obeysStand_45 : decode cX0_obeysStand 45 = .ok (.iload_n 2, 1) := by decide +kernel
theorem dX0_obeysStand_46 : decode cX0_obeysStand 46 = .ok (.iload_n 3, 1) := by decide +kernel
theorem dX0_obeysStand_47 : decode cX0_obeysStand 47 = .ok (.iload 4, 2) := by decide +kernel
theorem dX0_obeysStand_49 : decode cX0_obeysStand 49 = .ok (.invokestatic 128, 3) := by decide +kernel
theorem dX0_obeysStand_52 : decode cX0_obeysStand 52 = .ok (.ior, 1) := by decide +kernel
theorem dX0_obeysStand_53 : decode cX0_obeysStand 53 = .ok (.istore_n 2, 1) := by decide +kernel
theorem dX0_obeysStand_54 : decode cX0_obeysStand 54 = .ok (.iinc 3 1, 3) := by decide +kernel
theorem dX0_obeysStand_57 : decode cX0_obeysStand 57 = .ok (.goto (-40), 3) := by decide +kernel
theorem dX0_obeysStand_60 : decode cX0_obeysStand 60 = .ok (.aload_n 0, 1) := by decide +kernel
theorem dX0_obeysStand_61 : decode cX0_obeysStand 61 = .ok (.iload_n 2, 1) := by decide +kernel
theorem dX0_obeysStand_62 : decode cX0_obeysStand 62 = .ok (.putfield 40, 3) := by decide +kernel
theorem dX0_obeysStand_65 : decode cX0_obeysStand 65 = .ok (.iconst 1, 1) := by decide +kernel
theorem dX0_obeysStand_66 : decode cX0_obeysStand 66 = .ok (.ireturn, 1) := by decide +kernel
theorem dX1_init_0 : decode cX1_init 0 = .ok (.aload_n 0, 1) := by decide +kernel
theorem dX1_init_1 : decode cX1_init 1 = .ok (.invokespecial 3, 3) := by decide +kernel
theorem dX1_init_4 : decode cX1_init 4 = .ok (.aload_n 0, 1) := by decide +kernel
theorem dX1_init_5 : decode cX1_init 5 = .ok (.sipush 2187, 3) := by decide +kernel
theorem dX1_init_8 : decode cX1_init 8 = .ok (.newarray .int, 2) := by decide +kernel
theorem dX1_init_10 : decode cX1_init 10 = .ok (.putfield 9, 3) := by decide +kernel
theorem dX1_init_13 : decode cX1_init 13 = .ok (.aload_n 0, 1) := by decide +kernel
theorem dX1_init_14 : decode cX1_init 14 = .ok (.sipush 2187, 3) := by decide +kernel
theorem dX1_init_17 : decode cX1_init 17 = .ok (.newarray .int, 2) := by decide +kernel
theorem dX1_init_19 : decode cX1_init 19 = .ok (.putfield 15, 3) := by decide +kernel
theorem dX1_init_22 : decode cX1_init 22 = .ok (.aload_n 0, 1) := by decide +kernel
theorem dX1_init_23 : decode cX1_init 23 = .ok (.sipush 2187, 3) := by decide +kernel
theorem dX1_init_26 : decode cX1_init 26 = .ok (.newarray .int, 2) := by decide +kernel
theorem dX1_init_28 : decode cX1_init 28 = .ok (.putfield 18, 3) := by decide +kernel
theorem dX1_init_31 : decode cX1_init 31 = .ok (.return_, 1) := by decide +kernel
theorem dX1_judged_0 : decode cX1_judged 0 = .ok (.aload_n 0, 1) := by decide +kernel
theorem dX1_judged_1 : decode cX1_judged 1 = .ok (.aload_n 1, 1) := by decide +kernel
theorem dX1_judged_2 : decode cX1_judged 2 = .ok (.aload_n 2, 1) := by decide +kernel
theorem dX1_judged_3 : decode cX1_judged 3 = .ok (.invokevirtual 21, 3) := by decide +kernel
theorem dX1_judged_6 : decode cX1_judged 6 = .ok (.iconst 0, 1) := by decide +kernel
theorem dX1_judged_7 : decode cX1_judged 7 = .ok (.istore_n 3, 1) := by decide +kernel
theorem dX1_judged_8 : decode cX1_judged 8 = .ok (.iload_n 3, 1) := by decide +kernel
theorem dX1_judged_9 : decode cX1_judged 9 = .ok (.aload_n 0, 1) := by decide +kernel
theorem dX1_judged_10 : decode cX1_judged 10 = .ok (.getfield 25, 3) := by decide +kernel
theorem dX1_judged_13 : decode cX1_judged 13 = .ok (.if_icmp .ge 63, 3) := by decide +kernel
theorem dX1_judged_16 : decode cX1_judged 16 = .ok (.iload_n 3, 1) := by decide +kernel
theorem dX1_judged_17 : decode cX1_judged 17 = .ok (.aload_n 0, 1) := by decide +kernel
theorem dX1_judged_18 : decode cX1_judged 18 = .ok (.getfield 18, 3) := by decide +kernel
theorem dX1_judged_21 : decode cX1_judged 21 = .ok (.arraylength, 1) := by decide +kernel
theorem dX1_judged_22 : decode cX1_judged 22 = .ok (.if_icmp .ge 54, 3) := by decide +kernel
theorem dX1_judged_25 : decode cX1_judged 25 = .ok (.aload_n 0, 1) := by decide +kernel
theorem dX1_judged_26 : decode cX1_judged 26 = .ok (.getfield 18, 3) := by decide +kernel
theorem dX1_judged_29 : decode cX1_judged 29 = .ok (.iload_n 3, 1) := by decide +kernel
theorem dX1_judged_30 : decode cX1_judged 30 = .ok (.iaload, 1) := by decide +kernel
theorem dX1_judged_31 : decode cX1_judged 31 = .ok (.istore 4, 2) := by decide +kernel
theorem dX1_judged_33 : decode cX1_judged 33 = .ok (.iconst 0, 1) := by decide +kernel
theorem dX1_judged_34 : decode cX1_judged 34 = .ok (.istore 5, 2) := by decide +kernel
theorem dX1_judged_36 : decode cX1_judged 36 = .ok (.iload 5, 2) := by decide +kernel
theorem dX1_judged_38 : decode cX1_judged 38 = .ok (.aload_n 1, 1) := by decide +kernel
theorem dX1_judged_39 : decode cX1_judged 39 = .ok (.getfield 29, 3) := by decide +kernel
theorem dX1_judged_42 : decode cX1_judged 42 = .ok (.if_icmp .ge 28, 3) := by decide +kernel
theorem dX1_judged_45 : decode cX1_judged 45 = .ok (.aload_n 0, 1) := by decide +kernel
theorem dX1_judged_46 : decode cX1_judged 46 = .ok (.aload_n 2, 1) := by decide +kernel
theorem dX1_judged_47 : decode cX1_judged 47 = .ok (.iload 4, 2) := by decide +kernel
theorem dX1_judged_49 : decode cX1_judged 49 = .ok (.iload 5, 2) := by decide +kernel
theorem dX1_judged_51 : decode cX1_judged 51 = .ok (.invokevirtual 34, 3) := by decide +kernel
theorem dX1_judged_54 : decode cX1_judged 54 = .ok (.aload_n 0, 1) := by decide +kernel
theorem dX1_judged_55 : decode cX1_judged 55 = .ok (.iload 4, 2) := by decide +kernel
theorem dX1_judged_57 : decode cX1_judged 57 = .ok (.invokevirtual 40, 3) := by decide +kernel
theorem dX1_judged_60 : decode cX1_judged 60 = .ok (.aload_n 2, 1) := by decide +kernel
theorem dX1_judged_61 : decode cX1_judged 61 = .ok (.invokevirtual 44, 3) := by decide +kernel
theorem dX1_judged_64 : decode cX1_judged 64 = .ok (.iinc 5 1, 3) := by decide +kernel
theorem dX1_judged_67 : decode cX1_judged 67 = .ok (.goto (-31), 3) := by decide +kernel
theorem dX1_judged_70 : decode cX1_judged 70 = .ok (.iinc 3 1, 3) := by decide +kernel
theorem dX1_judged_73 : decode cX1_judged 73 = .ok (.goto (-65), 3) := by decide +kernel
theorem dX1_judged_76 : decode cX1_judged 76 = .ok (.aload_n 0, 1) := by decide +kernel
theorem dX1_judged_77 : decode cX1_judged 77 = .ok (.iconst 0, 1) := by decide +kernel
theorem dX1_judged_78 : decode cX1_judged 78 = .ok (.invokevirtual 40, 3) := by decide +kernel
theorem dX1_judged_81 : decode cX1_judged 81 = .ok (.ireturn, 1) := by decide +kernel
theorem dX1_begin_0 : decode cX1_begin 0 = .ok (.aload_n 0, 1) := by decide +kernel
theorem dX1_begin_1 : decode cX1_begin 1 = .ok (.iconst 0, 1) := by decide +kernel
theorem dX1_begin_2 : decode cX1_begin 2 = .ok (.putfield 25, 3) := by decide +kernel
theorem dX1_begin_5 : decode cX1_begin 5 = .ok (.iconst 0, 1) := by decide +kernel
theorem dX1_begin_6 : decode cX1_begin 6 = .ok (.istore_n 3, 1) := by decide +kernel
theorem dX1_begin_7 : decode cX1_begin 7 = .ok (.iload_n 3, 1) := by decide +kernel
theorem dX1_begin_8 : decode cX1_begin 8 = .ok (.aload_n 2, 1) := by decide +kernel
theorem dX1_begin_9 : decode cX1_begin 9 = .ok (.getfield 48, 3) := by decide +kernel
theorem dX1_begin_12 : decode cX1_begin 12 = .ok (.if_icmp .ge 62, 3) := by decide +kernel
theorem dX1_begin_15 : decode cX1_begin 15 = .ok (.iload_n 3, 1) := by decide +kernel
theorem dX1_begin_16 : decode cX1_begin 16 = .ok (.aload_n 0, 1) := by decide +kernel
theorem dX1_begin_17 : decode cX1_begin 17 = .ok (.getfield 9, 3) := by decide +kernel
theorem dX1_begin_20 : decode cX1_begin 20 = .ok (.arraylength, 1) := by decide +kernel
theorem dX1_begin_21 : decode cX1_begin 21 = .ok (.if_icmp .ge 53, 3) := by decide +kernel
theorem dX1_begin_24 : decode cX1_begin 24 = .ok (.iload_n 3, 1) := by decide +kernel
theorem dX1_begin_25 : decode cX1_begin 25 = .ok (.aload_n 0, 1) := by decide +kernel
theorem dX1_begin_26 : decode cX1_begin 26 = .ok (.getfield 15, 3) := by decide +kernel
theorem dX1_begin_29 : decode cX1_begin 29 = .ok (.arraylength, 1) := by decide +kernel
theorem dX1_begin_30 : decode cX1_begin 30 = .ok (.if_icmp .ge 44, 3) := by decide +kernel
theorem dX1_begin_33 : decode cX1_begin 33 = .ok (.aload_n 0, 1) := by decide +kernel
theorem dX1_begin_34 : decode cX1_begin 34 = .ok (.getfield 9, 3) := by decide +kernel
theorem dX1_begin_37 : decode cX1_begin 37 = .ok (.iload_n 3, 1) := by decide +kernel
theorem dX1_begin_38 : decode cX1_begin 38 = .ok (.iconst 2, 1) := by decide +kernel
theorem dX1_begin_39 : decode cX1_begin 39 = .ok (.iastore, 1) := by decide +kernel
theorem dX1_begin_40 : decode cX1_begin 40 = .ok (.aload_n 0, 1) := by decide +kernel
theorem dX1_begin_41 : decode cX1_begin 41 = .ok (.getfield 15, 3) := by decide +kernel
theorem dX1_begin_44 : decode cX1_begin 44 = .ok (.iload_n 3, 1) := by decide +kernel
theorem dX1_begin_45 : decode cX1_begin 45 = .ok (.aload_n 1, 1) := by decide +kernel
theorem dX1_begin_46 : decode cX1_begin 46 = .ok (.getfield 29, 3) := by decide +kernel
theorem dX1_begin_49 : decode cX1_begin 49 = .ok (.iastore, 1) := by decide +kernel
theorem dX1_begin_50 : decode cX1_begin 50 = .ok (.aload_n 1, 1) := by decide +kernel
theorem dX1_begin_51 : decode cX1_begin 51 = .ok (.aload_n 2, 1) := by decide +kernel
theorem dX1_begin_52 : decode cX1_begin 52 = .ok (.iload_n 3, 1) := by decide +kernel
theorem dX1_begin_53 : decode cX1_begin 53 = .ok (.invokevirtual 51, 3) := by decide +kernel
theorem dX1_begin_56 : decode cX1_begin 56 = .ok (.invokevirtual 54, 3) := by decide +kernel
theorem dX1_begin_59 : decode cX1_begin 59 = .ok (.ifCond .eq 9, 3) := by decide +kernel
theorem dX1_begin_62 : decode cX1_begin 62 = .ok (.aload_n 0, 1) := by decide +kernel
theorem dX1_begin_63 : decode cX1_begin 63 = .ok (.iload_n 3, 1) := by decide +kernel
theorem dX1_begin_64 : decode cX1_begin 64 = .ok (.iconst 0, 1) := by decide +kernel
theorem dX1_begin_65 : decode cX1_begin 65 = .ok (.invokevirtual 58, 3) := by decide +kernel
theorem dX1_begin_68 : decode cX1_begin 68 = .ok (.iinc 3 1, 3) := by decide +kernel
theorem dX1_begin_71 : decode cX1_begin 71 = .ok (.goto (-64), 3) := by decide +kernel
theorem dX1_begin_74 : decode cX1_begin 74 = .ok (.return_, 1) := by decide +kernel
theorem dX1_tellBack_0 : decode cX1_tellBack 0 = .ok (.iload_n 1, 1) := by decide +kernel
theorem dX1_tellBack_1 : decode cX1_tellBack 1 = .ok (.ifCond .lt 29, 3) := by decide +kernel
theorem dX1_tellBack_4 : decode cX1_tellBack 4 = .ok (.iload_n 1, 1) := by decide +kernel
theorem dX1_tellBack_5 : decode cX1_tellBack 5 = .ok (.aload_n 3, 1) := by decide +kernel
theorem dX1_tellBack_6 : decode cX1_tellBack 6 = .ok (.getfield 48, 3) := by decide +kernel
theorem dX1_tellBack_9 : decode cX1_tellBack 9 = .ok (.if_icmp .ge 21, 3) := by decide +kernel
theorem dX1_tellBack_12 : decode cX1_tellBack 12 = .ok (.iload_n 1, 1) := by decide +kernel
theorem dX1_tellBack_13 : decode cX1_tellBack 13 = .ok (.aload_n 0, 1) := by decide +kernel
theorem dX1_tellBack_14 : decode cX1_tellBack 14 = .ok (.getfield 15, 3) := by decide +kernel
theorem dX1_tellBack_17 : decode cX1_tellBack 17 = .ok (.arraylength, 1) := by decide +kernel
theorem dX1_tellBack_18 : decode cX1_tellBack 18 = .ok (.if_icmp .ge 12, 3) := by decide +kernel
theorem dX1_tellBack_21 : decode cX1_tellBack 21 = .ok (.aload_n 0, 1) := by decide +kernel
theorem dX1_tellBack_22 : decode cX1_tellBack 22 = .ok (.iload_n 1, 1) := by decide +kernel
theorem dX1_tellBack_23 : decode cX1_tellBack 23 = .ok (.invokevirtual 40, 3) := by decide +kernel
theorem dX1_tellBack_26 : decode cX1_tellBack 26 = .ok (.iconst 2, 1) := by decide +kernel
theorem dX1_tellBack_27 : decode cX1_tellBack 27 = .ok (.if_icmp .eq 4, 3) := by decide +kernel
theorem dX1_tellBack_30 : decode cX1_tellBack 30 = .ok (.return_, 1) := by decide +kernel
theorem dX1_tellBack_31 : decode cX1_tellBack 31 = .ok (.iload_n 2, 1) := by decide +kernel
theorem dX1_tellBack_32 : decode cX1_tellBack 32 = .ok (.ifCond .ne 10, 3) := by decide +kernel
theorem dX1_tellBack_35 : decode cX1_tellBack 35 = .ok (.aload_n 0, 1) := by decide +kernel
theorem dX1_tellBack_36 : decode cX1_tellBack 36 = .ok (.iload_n 1, 1) := by decide +kernel
theorem dX1_tellBack_37 : decode cX1_tellBack 37 = .ok (.iconst 1, 1) := by decide +kernel
theorem dX1_tellBack_38 : decode cX1_tellBack 38 = .ok (.invokevirtual 58, 3) := by decide +kernel
theorem dX1_tellBack_41 : decode cX1_tellBack 41 = .ok (.return_, 1) := by decide +kernel
theorem dX1_tellBack_42 : decode cX1_tellBack 42 = .ok (.aload_n 0, 1) := by decide +kernel
theorem dX1_tellBack_43 : decode cX1_tellBack 43 = .ok (.getfield 15, 3) := by decide +kernel
theorem dX1_tellBack_46 : decode cX1_tellBack 46 = .ok (.iload_n 1, 1) := by decide +kernel
theorem dX1_tellBack_47 : decode cX1_tellBack 47 = .ok (.dup2, 1) := by decide +kernel
theorem dX1_tellBack_48 : decode cX1_tellBack 48 = .ok (.iaload, 1) := by decide +kernel
theorem dX1_tellBack_49 : decode cX1_tellBack 49 = .ok (.iconst 1, 1) := by decide +kernel
theorem dX1_tellBack_50 : decode cX1_tellBack 50 = .ok (.isub, 1) := by decide +kernel
theorem dX1_tellBack_51 : decode cX1_tellBack 51 = .ok (.iastore, 1) := by decide +kernel
theorem dX1_tellBack_52 : decode cX1_tellBack 52 = .ok (.aload_n 0, 1) := by decide +kernel
theorem dX1_tellBack_53 : decode cX1_tellBack 53 = .ok (.getfield 15, 3) := by decide +kernel
theorem dX1_tellBack_56 : decode cX1_tellBack 56 = .ok (.iload_n 1, 1) := by decide +kernel
theorem dX1_tellBack_57 : decode cX1_tellBack 57 = .ok (.iaload, 1) := by decide +kernel
theorem dX1_tellBack_58 : decode cX1_tellBack 58 = .ok (.ifCond .ne 9, 3) := by decide +kernel
theorem dX1_tellBack_61 : decode cX1_tellBack 61 = .ok (.aload_n 0, 1) := by decide +kernel
theorem dX1_tellBack_62 : decode cX1_tellBack 62 = .ok (.iload_n 1, 1) := by decide +kernel
theorem dX1_tellBack_63 : decode cX1_tellBack 63 = .ok (.iconst 0, 1) := by decide +kernel
theorem dX1_tellBack_64 : decode cX1_tellBack 64 = .ok (.invokevirtual 58, 3) := by decide +kernel
theorem dX1_tellBack_67 : decode cX1_tellBack 67 = .ok (.return_, 1) := by decide +kernel
theorem dX1_verdictOf_0 : decode cX1_verdictOf 0 = .ok (.iload_n 1, 1) := by decide +kernel
theorem dX1_verdictOf_1 : decode cX1_verdictOf 1 = .ok (.ifCond .lt 21, 3) := by decide +kernel
theorem dX1_verdictOf_4 : decode cX1_verdictOf 4 = .ok (.iload_n 1, 1) := by decide +kernel
theorem dX1_verdictOf_5 : decode cX1_verdictOf 5 = .ok (.aload_n 0, 1) := by decide +kernel
theorem dX1_verdictOf_6 : decode cX1_verdictOf 6 = .ok (.getfield 9, 3) := by decide +kernel
theorem dX1_verdictOf_9 : decode cX1_verdictOf 9 = .ok (.arraylength, 1) := by decide +kernel
theorem dX1_verdictOf_10 : decode cX1_verdictOf 10 = .ok (.if_icmp .ge 12, 3) := by decide +kernel
theorem dX1_verdictOf_13 : decode cX1_verdictOf 13 = .ok (.aload_n 0, 1) := by decide +kernel
theorem dX1_verdictOf_14 : decode cX1_verdictOf 14 = .ok (.getfield 9, 3) := by decide +kernel
theorem dX1_verdictOf_17 : decode cX1_verdictOf 17 = .ok (.iload_n 1, 1) := by decide +kernel
theorem dX1_verdictOf_18 : decode cX1_verdictOf 18 = .ok (.iaload, 1) := by decide +kernel
theorem dX1_verdictOf_19 : decode cX1_verdictOf 19 = .ok (.goto 4, 3) := by decide +kernel
theorem dX1_verdictOf_22 : decode cX1_verdictOf 22 = .ok (.iconst 2, 1) := by decide +kernel
theorem dX1_verdictOf_23 : decode cX1_verdictOf 23 = .ok (.ireturn, 1) := by decide +kernel
theorem dX1_settle_0 : decode cX1_settle 0 = .ok (.iload_n 1, 1) := by decide +kernel
theorem dX1_settle_1 : decode cX1_settle 1 = .ok (.ifCond .lt 58, 3) := by decide +kernel
theorem dX1_settle_4 : decode cX1_settle 4 = .ok (.iload_n 1, 1) := by decide +kernel
theorem dX1_settle_5 : decode cX1_settle 5 = .ok (.aload_n 0, 1) := by decide +kernel
theorem dX1_settle_6 : decode cX1_settle 6 = .ok (.getfield 9, 3) := by decide +kernel
theorem dX1_settle_9 : decode cX1_settle 9 = .ok (.arraylength, 1) := by decide +kernel
theorem dX1_settle_10 : decode cX1_settle 10 = .ok (.if_icmp .ge 49, 3) := by decide +kernel
theorem dX1_settle_13 : decode cX1_settle 13 = .ok (.aload_n 0, 1) := by decide +kernel
theorem dX1_settle_14 : decode cX1_settle 14 = .ok (.getfield 25, 3) := by decide +kernel
theorem dX1_settle_17 : decode cX1_settle 17 = .ok (.ifCond .lt 42, 3) := by decide +kernel
theorem dX1_settle_20 : decode cX1_settle 20 = .ok (.aload_n 0, 1) := by decide +kernel
theorem dX1_settle_21 : decode cX1_settle 21 = .ok (.getfield 25, 3) := by decide +kernel
theorem dX1_settle_24 : decode cX1_settle 24 = .ok (.aload_n 0, 1) := by decide +kernel
theorem dX1_settle_25 : decode cX1_settle 25 = .ok (.getfield 18, 3) := by decide +kernel
theorem dX1_settle_28 : decode cX1_settle 28 = .ok (.arraylength, 1) := by decide +kernel
theorem dX1_settle_29 : decode cX1_settle 29 = .ok (.if_icmp .ge 30, 3) := by decide +kernel
theorem dX1_settle_32 : decode cX1_settle 32 = .ok (.aload_n 0, 1) := by decide +kernel
theorem dX1_settle_33 : decode cX1_settle 33 = .ok (.getfield 9, 3) := by decide +kernel
theorem dX1_settle_36 : decode cX1_settle 36 = .ok (.iload_n 1, 1) := by decide +kernel
theorem dX1_settle_37 : decode cX1_settle 37 = .ok (.iload_n 2, 1) := by decide +kernel
theorem dX1_settle_38 : decode cX1_settle 38 = .ok (.iastore, 1) := by decide +kernel
theorem dX1_settle_39 : decode cX1_settle 39 = .ok (.aload_n 0, 1) := by decide +kernel
theorem dX1_settle_40 : decode cX1_settle 40 = .ok (.getfield 18, 3) := by decide +kernel
theorem dX1_settle_43 : decode cX1_settle 43 = .ok (.aload_n 0, 1) := by decide +kernel
theorem dX1_settle_44 : decode cX1_settle 44 = .ok (.getfield 25, 3) := by decide +kernel
theorem dX1_settle_47 : decode cX1_settle 47 = .ok (.iload_n 1, 1) := by decide +kernel
theorem dX1_settle_48 : decode cX1_settle 48 = .ok (.iastore, 1) := by decide +kernel
theorem dX1_settle_49 : decode cX1_settle 49 = .ok (.aload_n 0, 1) := by decide +kernel
theorem dX1_settle_50 : decode cX1_settle 50 = .ok (.dup, 1) := by decide +kernel
theorem dX1_settle_51 : decode cX1_settle 51 = .ok (.getfield 25, 3) := by decide +kernel
theorem dX1_settle_54 : decode cX1_settle 54 = .ok (.iconst 1, 1) := by decide +kernel
theorem dX1_settle_55 : decode cX1_settle 55 = .ok (.iadd, 1) := by decide +kernel
theorem dX1_settle_56 : decode cX1_settle 56 = .ok (.putfield 25, 3) := by decide +kernel
theorem dX1_settle_59 : decode cX1_settle 59 = .ok (.return_, 1) := by decide +kernel
theorem dX2_init_0 : decode cX2_init 0 = .ok (.aload_n 0, 1) := by decide +kernel
theorem dX2_init_1 : decode cX2_init 1 = .ok (.invokespecial 1, 3) := by decide +kernel
theorem dX2_init_4 : decode cX2_init 4 = .ok (.aload_n 0, 1) := by decide +kernel
theorem dX2_init_5 : decode cX2_init 5 = .ok (.iload_n 1, 1) := by decide +kernel
theorem dX2_init_6 : decode cX2_init 6 = .ok (.putfield 7, 3) := by decide +kernel
theorem dX2_init_9 : decode cX2_init 9 = .ok (.aload_n 0, 1) := by decide +kernel
theorem dX2_init_10 : decode cX2_init 10 = .ok (.iload_n 2, 1) := by decide +kernel
theorem dX2_init_11 : decode cX2_init 11 = .ok (.putfield 13, 3) := by decide +kernel
theorem dX2_init_14 : decode cX2_init 14 = .ok (.aload_n 0, 1) := by decide +kernel
theorem dX2_init_15 : decode cX2_init 15 = .ok (.iload_n 3, 1) := by decide +kernel
theorem dX2_init_16 : decode cX2_init 16 = .ok (.putfield 16, 3) := by decide +kernel
theorem dX2_init_19 : decode cX2_init 19 = .ok (.aload_n 0, 1) := by decide +kernel
theorem dX2_init_20 : decode cX2_init 20 = .ok (.iload 4, 2) := by decide +kernel
theorem dX2_init_22 : decode cX2_init 22 = .ok (.putfield 19, 3) := by decide +kernel
theorem dX2_init_25 : decode cX2_init 25 = .ok (.return_, 1) := by decide +kernel
theorem dX2_isGoerTo_0 : decode cX2_isGoerTo 0 = .ok (.aload_n 0, 1) := by decide +kernel
theorem dX2_isGoerTo_1 : decode cX2_isGoerTo 1 = .ok (.getfield 13, 3) := by decide +kernel
theorem dX2_isGoerTo_4 : decode cX2_isGoerTo 4 = .ok (.iload_n 1, 1) := by decide +kernel
theorem dX2_isGoerTo_5 : decode cX2_isGoerTo 5 = .ok (.invokestatic 22, 3) := by decide +kernel
theorem dX2_isGoerTo_8 : decode cX2_isGoerTo 8 = .ok (.istore_n 2, 1) := by decide +kernel
theorem dX2_isGoerTo_9 : decode cX2_isGoerTo 9 = .ok (.aload_n 0, 1) := by decide +kernel
theorem dX2_isGoerTo_10 : decode cX2_isGoerTo 10 = .ok (.getfield 16, 3) := by decide +kernel
theorem dX2_isGoerTo_13 : decode cX2_isGoerTo 13 = .ok (.iload_n 1, 1) := by decide +kernel
theorem dX2_isGoerTo_14 : decode cX2_isGoerTo 14 = .ok (.invokestatic 22, 3) := by decide +kernel
theorem dX2_isGoerTo_17 : decode cX2_isGoerTo 17 = .ok (.istore_n 3, 1) := by decide +kernel
theorem dX2_isGoerTo_18 : decode cX2_isGoerTo 18 = .ok (.aload_n 0, 1) := by decide +kernel
theorem dX2_isGoerTo_19 : decode cX2_isGoerTo 19 = .ok (.getfield 7, 3) := by decide +kernel
theorem dX2_isGoerTo_22 : decode cX2_isGoerTo 22 = .ok (.tableswitch 110 0 5 #[38, 40, 49, 63, 77, 88], 38) := by decide +kernel
theorem dX2_isGoerTo_60 : decode cX2_isGoerTo 60 = .ok (.iload_n 2, 1) := by decide +kernel
theorem dX2_isGoerTo_61 : decode cX2_isGoerTo 61 = .ok (.ireturn, 1) := by decide +kernel
theorem dX2_isGoerTo_62 : decode cX2_isGoerTo 62 = .ok (.iload_n 1, 1) := by decide +kernel
theorem dX2_isGoerTo_63 : decode cX2_isGoerTo 63 = .ok (.aload_n 0, 1) := by decide +kernel
theorem dX2_isGoerTo_64 : decode cX2_isGoerTo 64 = .ok (.getfield 13, 3) := by decide +kernel
theorem dX2_isGoerTo_67 : decode cX2_isGoerTo 67 = .ok (.invokestatic 22, 3) := by decide +kernel
theorem dX2_isGoerTo_70 : decode cX2_isGoerTo 70 = .ok (.ireturn, 1) := by decide +kernel
theorem dX2_isGoerTo_71 : decode cX2_isGoerTo 71 = .ok (.iload_n 2, 1) := by decide +kernel
theorem dX2_isGoerTo_72 : decode cX2_isGoerTo 72 = .ok (.ifCond .eq 11, 3) := by decide +kernel
theorem dX2_isGoerTo_75 : decode cX2_isGoerTo 75 = .ok (.iload_n 3, 1) := by decide +kernel
theorem dX2_isGoerTo_76 : decode cX2_isGoerTo 76 = .ok (.ifCond .eq 7, 3) := by decide +kernel
theorem dX2_isGoerTo_79 : decode cX2_isGoerTo 79 = .ok (.iconst 1, 1) := by decide +kernel
theorem dX2_isGoerTo_80 : decode cX2_isGoerTo 80 = .ok (.goto 4, 3) := by decide +kernel
theorem dX2_isGoerTo_83 : decode cX2_isGoerTo 83 = .ok (.iconst 0, 1) := by decide +kernel
theorem dX2_isGoerTo_84 : decode cX2_isGoerTo 84 = .ok (.ireturn, 1) := by decide +kernel
theorem dX2_isGoerTo_85 : decode cX2_isGoerTo 85 = .ok (.iload_n 2, 1) := by decide +kernel
theorem dX2_isGoerTo_86 : decode cX2_isGoerTo 86 = .ok (.ifCond .ne 7, 3) := by decide +kernel
theorem dX2_isGoerTo_89 : decode cX2_isGoerTo 89 = .ok (.iload_n 3, 1) := by decide +kernel
theorem dX2_isGoerTo_90 : decode cX2_isGoerTo 90 = .ok (.ifCond .eq 7, 3) := by decide +kernel
theorem dX2_isGoerTo_93 : decode cX2_isGoerTo 93 = .ok (.iconst 1, 1) := by decide +kernel
theorem dX2_isGoerTo_94 : decode cX2_isGoerTo 94 = .ok (.goto 4, 3) := by decide +kernel
theorem dX2_isGoerTo_97 : decode cX2_isGoerTo 97 = .ok (.iconst 0, 1) := by decide +kernel
theorem dX2_isGoerTo_98 : decode cX2_isGoerTo 98 = .ok (.ireturn, 1) := by decide +kernel
theorem dX2_isGoerTo_99 : decode cX2_isGoerTo 99 = .ok (.iload_n 2, 1) := by decide +kernel
theorem dX2_isGoerTo_100 : decode cX2_isGoerTo 100 = .ok (.iload_n 3, 1) := by decide +kernel
theorem dX2_isGoerTo_101 : decode cX2_isGoerTo 101 = .ok (.if_icmp .eq 7, 3) := by decide +kernel
theorem dX2_isGoerTo_104 : decode cX2_isGoerTo 104 = .ok (.iconst 1, 1) := by decide +kernel
theorem dX2_isGoerTo_105 : decode cX2_isGoerTo 105 = .ok (.goto 4, 3) := by decide +kernel
theorem dX2_isGoerTo_108 : decode cX2_isGoerTo 108 = .ok (.iconst 0, 1) := by decide +kernel
theorem dX2_isGoerTo_109 : decode cX2_isGoerTo 109 = .ok (.ireturn, 1) := by decide +kernel
theorem dX2_isGoerTo_110 : decode cX2_isGoerTo 110 = .ok (.iload_n 1, 1) := by decide +kernel
theorem dX2_isGoerTo_111 : decode cX2_isGoerTo 111 = .ok (.aload_n 0, 1) := by decide +kernel
theorem dX2_isGoerTo_112 : decode cX2_isGoerTo 112 = .ok (.getfield 13, 3) := by decide +kernel
theorem dX2_isGoerTo_115 : decode cX2_isGoerTo 115 = .ok (.if_icmp .lt 15, 3) := by decide +kernel
theorem dX2_isGoerTo_118 : decode cX2_isGoerTo 118 = .ok (.iload_n 1, 1) := by decide +kernel
theorem dX2_isGoerTo_119 : decode cX2_isGoerTo 119 = .ok (.aload_n 0, 1) := by decide +kernel
theorem dX2_isGoerTo_120 : decode cX2_isGoerTo 120 = .ok (.getfield 16, 3) := by decide +kernel
theorem dX2_isGoerTo_123 : decode cX2_isGoerTo 123 = .ok (.if_icmp .gt 7, 3) := by decide +kernel
theorem dX2_isGoerTo_126 : decode cX2_isGoerTo 126 = .ok (.iconst 1, 1) := by decide +kernel
theorem dX2_isGoerTo_127 : decode cX2_isGoerTo 127 = .ok (.goto 4, 3) := by decide +kernel
theorem dX2_isGoerTo_130 : decode cX2_isGoerTo 130 = .ok (.iconst 0, 1) := by decide +kernel
theorem dX2_isGoerTo_131 : decode cX2_isGoerTo 131 = .ok (.ireturn, 1) := by decide +kernel
theorem dX2_isGoerTo_132 : decode cX2_isGoerTo 132 = .ok (.iconst 0, 1) := by decide +kernel
theorem dX2_isGoerTo_133 : decode cX2_isGoerTo 133 = .ok (.ireturn, 1) := by decide +kernel
theorem dX3_init_0 : decode cX3_init 0 = .ok (.aload_n 0, 1) := by decide +kernel
theorem dX3_init_1 : decode cX3_init 1 = .ok (.invokespecial 3, 3) := by decide +kernel
theorem dX3_init_4 : decode cX3_init 4 = .ok (.aload_n 0, 1) := by decide +kernel
theorem dX3_init_5 : decode cX3_init 5 = .ok (.bipush 64, 2) := by decide +kernel
theorem dX3_init_7 : decode cX3_init 7 = .ok (.newarray .int, 2) := by decide +kernel
theorem dX3_init_9 : decode cX3_init 9 = .ok (.putfield 9, 3) := by decide +kernel
theorem dX3_init_12 : decode cX3_init 12 = .ok (.aload_n 0, 1) := by decide +kernel
theorem dX3_init_13 : decode cX3_init 13 = .ok (.iconst 3, 1) := by decide +kernel
theorem dX3_init_14 : decode cX3_init 14 = .ok (.newarray .int, 2) := by decide +kernel
theorem dX3_init_16 : decode cX3_init 16 = .ok (.putfield 15, 3) := by decide +kernel
theorem dX3_init_19 : decode cX3_init 19 = .ok (.aload_n 0, 1) := by decide +kernel
theorem dX3_init_20 : decode cX3_init 20 = .ok (.bipush 12, 2) := by decide +kernel
theorem dX3_init_22 : decode cX3_init 22 = .ok (.newarray .int, 2) := by decide +kernel
theorem dX3_init_24 : decode cX3_init 24 = .ok (.putfield 18, 3) := by decide +kernel
theorem dX3_init_27 : decode cX3_init 27 = .ok (.return_, 1) := by decide +kernel
theorem dX3_append_0 : decode cX3_append 0 = .ok (.aload_n 0, 1) := by decide +kernel
theorem dX3_append_1 : decode cX3_append 1 = .ok (.getfield 21, 3) := by decide +kernel
theorem dX3_append_4 : decode cX3_append 4 = .ok (.ifCond .lt 35, 3) := by decide +kernel
theorem dX3_append_7 : decode cX3_append 7 = .ok (.aload_n 0, 1) := by decide +kernel
theorem dX3_append_8 : decode cX3_append 8 = .ok (.getfield 21, 3) := by decide +kernel
theorem dX3_append_11 : decode cX3_append 11 = .ok (.aload_n 0, 1) := by decide +kernel
theorem dX3_append_12 : decode cX3_append 12 = .ok (.getfield 9, 3) := by decide +kernel
theorem dX3_append_15 : decode cX3_append 15 = .ok (.arraylength, 1) := by decide +kernel
theorem dX3_append_16 : decode cX3_append 16 = .ok (.if_icmp .ge 23, 3) := by decide +kernel
theorem dX3_append_19 : decode cX3_append 19 = .ok (.aload_n 0, 1) := by decide +kernel
theorem dX3_append_20 : decode cX3_append 20 = .ok (.getfield 9, 3) := by decide +kernel
theorem dX3_append_23 : decode cX3_append 23 = .ok (.aload_n 0, 1) := by decide +kernel
theorem dX3_append_24 : decode cX3_append 24 = .ok (.getfield 21, 3) := by decide +kernel
theorem dX3_append_27 : decode cX3_append 27 = .ok (.iload_n 1, 1) := by decide +kernel
theorem dX3_append_28 : decode cX3_append 28 = .ok (.iastore, 1) := by decide +kernel
theorem dX3_append_29 : decode cX3_append 29 = .ok (.aload_n 0, 1) := by decide +kernel
theorem dX3_append_30 : decode cX3_append 30 = .ok (.dup, 1) := by decide +kernel
theorem dX3_append_31 : decode cX3_append 31 = .ok (.getfield 21, 3) := by decide +kernel
theorem dX3_append_34 : decode cX3_append 34 = .ok (.iconst 1, 1) := by decide +kernel
theorem dX3_append_35 : decode cX3_append 35 = .ok (.iadd, 1) := by decide +kernel
theorem dX3_append_36 : decode cX3_append 36 = .ok (.putfield 21, 3) := by decide +kernel
theorem dX3_append_39 : decode cX3_append 39 = .ok (.aload_n 0, 1) := by decide +kernel
theorem dX3_append_40 : decode cX3_append 40 = .ok (.getfield 21, 3) := by decide +kernel
theorem dX3_append_43 : decode cX3_append 43 = .ok (.ireturn, 1) := by decide +kernel
theorem dX3_wipe_0 : decode cX3_wipe 0 = .ok (.aload_n 0, 1) := by decide +kernel
theorem dX3_wipe_1 : decode cX3_wipe 1 = .ok (.iconst 0, 1) := by decide +kernel
theorem dX3_wipe_2 : decode cX3_wipe 2 = .ok (.putfield 21, 3) := by decide +kernel
theorem dX3_wipe_5 : decode cX3_wipe 5 = .ok (.return_, 1) := by decide +kernel
theorem dX3_rewind_0 : decode cX3_rewind 0 = .ok (.aload_n 0, 1) := by decide +kernel
theorem dX3_rewind_1 : decode cX3_rewind 1 = .ok (.iconst 0, 1) := by decide +kernel
theorem dX3_rewind_2 : decode cX3_rewind 2 = .ok (.putfield 25, 3) := by decide +kernel
theorem dX3_rewind_5 : decode cX3_rewind 5 = .ok (.return_, 1) := by decide +kernel
theorem dX3_numberAt_0 : decode cX3_numberAt 0 = .ok (.iload_n 1, 1) := by decide +kernel
theorem dX3_numberAt_1 : decode cX3_numberAt 1 = .ok (.ifCond .lt 29, 3) := by decide +kernel
theorem dX3_numberAt_4 : decode cX3_numberAt 4 = .ok (.iload_n 1, 1) := by decide +kernel
theorem dX3_numberAt_5 : decode cX3_numberAt 5 = .ok (.aload_n 0, 1) := by decide +kernel
theorem dX3_numberAt_6 : decode cX3_numberAt 6 = .ok (.getfield 28, 3) := by decide +kernel
theorem dX3_numberAt_9 : decode cX3_numberAt 9 = .ok (.if_icmp .ge 21, 3) := by decide +kernel
theorem dX3_numberAt_12 : decode cX3_numberAt 12 = .ok (.iload_n 1, 1) := by decide +kernel
theorem dX3_numberAt_13 : decode cX3_numberAt 13 = .ok (.aload_n 0, 1) := by decide +kernel
theorem dX3_numberAt_14 : decode cX3_numberAt 14 = .ok (.getfield 15, 3) := by decide +kernel
theorem dX3_numberAt_17 : decode cX3_numberAt 17 = .ok (.arraylength, 1) := by decide +kernel
theorem dX3_numberAt_18 : decode cX3_numberAt 18 = .ok (.if_icmp .ge 12, 3) := by decide +kernel
theorem dX3_numberAt_21 : decode cX3_numberAt 21 = .ok (.aload_n 0, 1) := by decide +kernel
theorem dX3_numberAt_22 : decode cX3_numberAt 22 = .ok (.getfield 15, 3) := by decide +kernel
theorem dX3_numberAt_25 : decode cX3_numberAt 25 = .ok (.iload_n 1, 1) := by decide +kernel
theorem dX3_numberAt_26 : decode cX3_numberAt 26 = .ok (.iaload, 1) := by decide +kernel
theorem dX3_numberAt_27 : decode cX3_numberAt 27 = .ok (.goto 4, 3) := by decide +kernel
theorem dX3_numberAt_30 : decode cX3_numberAt 30 = .ok (.iconst 0, 1) := by decide +kernel
theorem dX3_numberAt_31 : decode cX3_numberAt 31 = .ok (.ireturn, 1) := by decide +kernel
theorem dX3_digitAt_0 : decode cX3_digitAt 0 = .ok (.iload_n 1, 1) := by decide +kernel
theorem dX3_digitAt_1 : decode cX3_digitAt 1 = .ok (.ifCond .lt 29, 3) := by decide +kernel
theorem dX3_digitAt_4 : decode cX3_digitAt 4 = .ok (.iload_n 1, 1) := by decide +kernel
theorem dX3_digitAt_5 : decode cX3_digitAt 5 = .ok (.aload_n 0, 1) := by decide +kernel
theorem dX3_digitAt_6 : decode cX3_digitAt 6 = .ok (.getfield 31, 3) := by decide +kernel
theorem dX3_digitAt_9 : decode cX3_digitAt 9 = .ok (.if_icmp .ge 21, 3) := by decide +kernel
theorem dX3_digitAt_12 : decode cX3_digitAt 12 = .ok (.iload_n 1, 1) := by decide +kernel
theorem dX3_digitAt_13 : decode cX3_digitAt 13 = .ok (.aload_n 0, 1) := by decide +kernel
theorem dX3_digitAt_14 : decode cX3_digitAt 14 = .ok (.getfield 18, 3) := by decide +kernel
theorem dX3_digitAt_17 : decode cX3_digitAt 17 = .ok (.arraylength, 1) := by decide +kernel
theorem dX3_digitAt_18 : decode cX3_digitAt 18 = .ok (.if_icmp .ge 12, 3) := by decide +kernel
theorem dX3_digitAt_21 : decode cX3_digitAt 21 = .ok (.aload_n 0, 1) := by decide +kernel
theorem dX3_digitAt_22 : decode cX3_digitAt 22 = .ok (.getfield 18, 3) := by decide +kernel
theorem dX3_digitAt_25 : decode cX3_digitAt 25 = .ok (.iload_n 1, 1) := by decide +kernel
theorem dX3_digitAt_26 : decode cX3_digitAt 26 = .ok (.iaload, 1) := by decide +kernel
theorem dX3_digitAt_27 : decode cX3_digitAt 27 = .ok (.goto 4, 3) := by decide +kernel
theorem dX3_digitAt_30 : decode cX3_digitAt 30 = .ok (.iconst 0, 1) := by decide +kernel
theorem dX3_digitAt_31 : decode cX3_digitAt 31 = .ok (.ireturn, 1) := by decide +kernel
theorem dX3_misplaced_0 : decode cX3_misplaced 0 = .ok (.aload_n 0, 1) := by decide +kernel
theorem dX3_misplaced_1 : decode cX3_misplaced 1 = .ok (.invokevirtual 34, 3) := by decide +kernel
theorem dX3_misplaced_4 : decode cX3_misplaced 4 = .ok (.iconst 0, 1) := by decide +kernel
theorem dX3_misplaced_5 : decode cX3_misplaced 5 = .ok (.istore_n 1, 1) := by decide +kernel
theorem dX3_misplaced_6 : decode cX3_misplaced 6 = .ok (.iload_n 1, 1) := by decide +kernel
theorem dX3_misplaced_7 : decode cX3_misplaced 7 = .ok (.bipush 64, 2) := by decide +kernel
theorem dX3_misplaced_9 : decode cX3_misplaced 9 = .ok (.if_icmp .ge 36, 3) := by decide +kernel
theorem dX3_misplaced_12 : decode cX3_misplaced 12 = .ok (.iload_n 1, 1) := by decide +kernel
theorem dX3_misplaced_13 : decode cX3_misplaced 13 = .ok (.ifCond .eq 14, 3) := by decide +kernel
theorem dX3_misplaced_16 : decode cX3_misplaced 16 = .ok (.aload_n 0, 1) := by decide +kernel
theorem dX3_misplaced_17 : decode cX3_misplaced 17 = .ok (.getfield 25, 3) := by decide +kernel
theorem dX3_misplaced_20 : decode cX3_misplaced 20 = .ok (.aload_n 0, 1) := by decide +kernel
theorem dX3_misplaced_21 : decode cX3_misplaced 21 = .ok (.getfield 21, 3) := by decide +kernel
theorem dX3_misplaced_24 : decode cX3_misplaced 24 = .ok (.if_icmp .ge 21, 3) := by decide +kernel
theorem dX3_misplaced_27 : decode cX3_misplaced 27 = .ok (.aload_n 0, 1) := by decide +kernel
theorem dX3_misplaced_28 : decode cX3_misplaced 28 = .ok (.invokevirtual 37, 3) := by decide +kernel
theorem dX3_misplaced_31 : decode cX3_misplaced 31 = .ok (.ifCond .ne 8, 3) := by decide +kernel
theorem dX3_misplaced_34 : decode cX3_misplaced 34 = .ok (.aload_n 0, 1) := by decide +kernel
theorem dX3_misplaced_35 : decode cX3_misplaced 35 = .ok (.getfield 25, 3) := by decide +kernel
theorem dX3_misplaced_38 : decode cX3_misplaced 38 = .ok (.ireturn, 1) := by decide +kernel
theorem dX3_misplaced_39 : decode cX3_misplaced 39 = .ok (.iinc 1 1, 3) := by decide +kernel
theorem dX3_misplaced_42 : decode cX3_misplaced 42 = .ok (.goto (-36), 3) := by decide +kernel
theorem dX3_misplaced_45 : decode cX3_misplaced 45 = .ok (.iconst (-1), 1) := by decide +kernel
theorem dX3_misplaced_46 : decode cX3_misplaced 46 = .ok (.ireturn, 1) := by decide +kernel
theorem dX3_readStatement_0 : decode cX3_readStatement 0 = .ok (.aload_n 0, 1) := by decide +kernel
theorem dX3_readStatement_1 : decode cX3_readStatement 1 = .ok (.aload_n 0, 1) := by decide +kernel
theorem dX3_readStatement_2 : decode cX3_readStatement 2 = .ok (.invokevirtual 41, 3) := by decide +kernel
theorem dX3_readStatement_5 : decode cX3_readStatement 5 = .ok (.putfield 45, 3) := by decide +kernel
theorem dX3_readStatement_8 : decode cX3_readStatement 8 = .ok (.aload_n 0, 1) := by decide +kernel
theorem dX3_readStatement_9 : decode cX3_readStatement 9 = .ok (.iconst 0, 1) := by decide +kernel
theorem dX3_readStatement_10 : decode cX3_readStatement 10 = .ok (.putfield 28, 3) := by decide +kernel
theorem dX3_readStatement_13 : decode cX3_readStatement 13 = .ok (.aload_n 0, 1) := by decide +kernel
theorem dX3_readStatement_14 : decode cX3_readStatement 14 = .ok (.bipush 110, 2) := by decide +kernel
theorem dX3_readStatement_16 : decode cX3_readStatement 16 = .ok (.invokevirtual 48, 3) := by decide +kernel
theorem dX3_readStatement_19 : decode cX3_readStatement 19 = .ok (.ifCond .ne 12, 3) := by decide +kernel
theorem dX3_readStatement_22 : decode cX3_readStatement 22 = .ok (.aload_n 0, 1) := by decide +kernel
theorem dX3_readStatement_23 : decode cX3_readStatement 23 = .ok (.bipush 115, 2) := by decide +kernel
theorem dX3_readStatement_25 : decode cX3_readStatement 25 = .ok (.invokevirtual 48, 3) := by decide +kernel
theorem dX3_readStatement_28 : decode cX3_readStatement 28 = .ok (.ifCond .eq 26, 3) := by decide +kernel
theorem dX3_readStatement_31 : decode cX3_readStatement 31 = .ok (.aload_n 0, 1) := by decide +kernel
theorem dX3_readStatement_32 : decode cX3_readStatement 32 = .ok (.iconst 2, 1) := by decide +kernel
theorem dX3_readStatement_33 : decode cX3_readStatement 33 = .ok (.invokevirtual 52, 3) := by decide +kernel
theorem dX3_readStatement_36 : decode cX3_readStatement 36 = .ok (.ifCond .eq 16, 3) := by decide +kernel
theorem dX3_readStatement_39 : decode cX3_readStatement 39 = .ok (.aload_n 0, 1) := by decide +kernel
theorem dX3_readStatement_40 : decode cX3_readStatement 40 = .ok (.bipush 59, 2) := by decide +kernel
theorem dX3_readStatement_42 : decode cX3_readStatement 42 = .ok (.invokevirtual 48, 3) := by decide +kernel
theorem dX3_readStatement_45 : decode cX3_readStatement 45 = .ok (.ifCond .eq 7, 3) := by decide +kernel
theorem dX3_readStatement_48 : decode cX3_readStatement 48 = .ok (.iconst 1, 1) := by decide +kernel
theorem dX3_readStatement_49 : decode cX3_readStatement 49 = .ok (.goto 4, 3) := by decide +kernel
theorem dX3_readStatement_52 : decode cX3_readStatement 52 = .ok (.iconst 0, 1) := by decide +kernel
theorem dX3_readStatement_53 : decode cX3_readStatement 53 = .ok (.ireturn, 1) := by decide +kernel
theorem dX3_readStatement_54 : decode cX3_readStatement 54 = .ok (.aload_n 0, 1) := by decide +kernel
theorem dX3_readStatement_55 : decode cX3_readStatement 55 = .ok (.bipush 107, 2) := by decide +kernel
theorem dX3_readStatement_57 : decode cX3_readStatement 57 = .ok (.invokevirtual 48, 3) := by decide +kernel
theorem dX3_readStatement_60 : decode cX3_readStatement 60 = .ok (.ifCond .eq 26, 3) := by decide +kernel
theorem dX3_readStatement_63 : decode cX3_readStatement 63 = .ok (.aload_n 0, 1) := by decide +kernel
theorem dX3_readStatement_64 : decode cX3_readStatement 64 = .ok (.iconst 1, 1) := by decide +kernel
theorem dX3_readStatement_65 : decode cX3_readStatement 65 = .ok (.invokevirtual 52, 3) := by decide +kernel
theorem dX3_readStatement_68 : decode cX3_readStatement 68 = .ok (.ifCond .eq 16, 3) := by decide +kernel
theorem dX3_readStatement_71 : decode cX3_readStatement 71 = .ok (.aload_n 0, 1) := by decide +kernel
theorem dX3_readStatement_72 : decode cX3_readStatement 72 = .ok (.bipush 59, 2) := by decide +kernel
theorem dX3_readStatement_74 : decode cX3_readStatement 74 = .ok (.invokevirtual 48, 3) := by decide +kernel
theorem dX3_readStatement_77 : decode cX3_readStatement 77 = .ok (.ifCond .eq 7, 3) := by decide +kernel
theorem dX3_readStatement_80 : decode cX3_readStatement 80 = .ok (.iconst 1, 1) := by decide +kernel
theorem dX3_readStatement_81 : decode cX3_readStatement 81 = .ok (.goto 4, 3) := by decide +kernel
theorem dX3_readStatement_84 : decode cX3_readStatement 84 = .ok (.iconst 0, 1) := by decide +kernel
theorem dX3_readStatement_85 : decode cX3_readStatement 85 = .ok (.ireturn, 1) := by decide +kernel
theorem dX3_readStatement_86 : decode cX3_readStatement 86 = .ok (.aload_n 0, 1) := by decide +kernel
theorem dX3_readStatement_87 : decode cX3_readStatement 87 = .ok (.bipush 119, 2) := by decide +kernel
theorem dX3_readStatement_89 : decode cX3_readStatement 89 = .ok (.invokevirtual 48, 3) := by decide +kernel
theorem dX3_readStatement_92 : decode cX3_readStatement 92 = .ok (.ifCond .ne 12, 3) := by decide +kernel
theorem dX3_readStatement_95 : decode cX3_readStatement 95 = .ok (.aload_n 0, 1) := by decide +kernel
theorem dX3_readStatement_96 : decode cX3_readStatement 96 = .ok (.bipush 104, 2) := by decide +kernel
theorem dX3_readStatement_98 : decode cX3_readStatement 98 = .ok (.invokevirtual 48, 3) := by decide +kernel
theorem dX3_readStatement_101 : decode cX3_readStatement 101 = .ok (.ifCond .eq 27, 3) := by decide +kernel
theorem dX3_readStatement_104 : decode cX3_readStatement 104 = .ok (.aload_n 0, 1) := by decide +kernel
theorem dX3_readStatement_105 : decode cX3_readStatement 105 = .ok (.bipush 12, 2) := by decide +kernel
theorem dX3_readStatement_107 : decode cX3_readStatement 107 = .ok (.invokevirtual 52, 3) := by decide +kernel
theorem dX3_readStatement_110 : decode cX3_readStatement 110 = .ok (.ifCond .eq 16, 3) := by decide +kernel
theorem dX3_readStatement_113 : decode cX3_readStatement 113 = .ok (.aload_n 0, 1) := by decide +kernel
theorem dX3_readStatement_114 : decode cX3_readStatement 114 = .ok (.bipush 59, 2) := by decide +kernel
theorem dX3_readStatement_116 : decode cX3_readStatement 116 = .ok (.invokevirtual 48, 3) := by decide +kernel
theorem dX3_readStatement_119 : decode cX3_readStatement 119 = .ok (.ifCond .eq 7, 3) := by decide +kernel
theorem dX3_readStatement_122 : decode cX3_readStatement 122 = .ok (.iconst 1, 1) := by decide +kernel
theorem dX3_readStatement_123 : decode cX3_readStatement 123 = .ok (.goto 4, 3) := by decide +kernel
theorem dX3_readStatement_126 : decode cX3_readStatement 126 = .ok (.iconst 0, 1) := by decide +kernel
theorem dX3_readStatement_127 : decode cX3_readStatement 127 = .ok (.ireturn, 1) := by decide +kernel
theorem dX3_readStatement_128 : decode cX3_readStatement 128 = .ok (.aload_n 0, 1) := by decide +kernel
theorem dX3_readStatement_129 : decode cX3_readStatement 129 = .ok (.bipush 112, 2) := by decide +kernel
theorem dX3_readStatement_131 : decode cX3_readStatement 131 = .ok (.invokevirtual 48, 3) := by decide +kernel
theorem dX3_readStatement_134 : decode cX3_readStatement 134 = .ok (.ifCond .eq 65, 3) := by decide +kernel
theorem dX3_readStatement_137 : decode cX3_readStatement 137 = .ok (.aload_n 0, 1) := by decide +kernel
theorem dX3_readStatement_138 : decode cX3_readStatement 138 = .ok (.invokevirtual 56, 3) := by decide +kernel
theorem dX3_readStatement_141 : decode cX3_readStatement 141 = .ok (.ifCond .eq 58, 3) := by decide +kernel
theorem dX3_readStatement_144 : decode cX3_readStatement 144 = .ok (.aload_n 0, 1) := by decide +kernel
theorem dX3_readStatement_145 : decode cX3_readStatement 145 = .ok (.iconst 2, 1) := by decide +kernel
theorem dX3_readStatement_146 : decode cX3_readStatement 146 = .ok (.invokevirtual 52, 3) := by decide +kernel
theorem dX3_readStatement_149 : decode cX3_readStatement 149 = .ok (.ifCond .eq 50, 3) := by decide +kernel
theorem dX3_readStatement_152 : decode cX3_readStatement 152 = .ok (.aload_n 0, 1) := by decide +kernel
theorem dX3_readStatement_153 : decode cX3_readStatement 153 = .ok (.bipush 44, 2) := by decide +kernel
theorem dX3_readStatement_155 : decode cX3_readStatement 155 = .ok (.invokevirtual 48, 3) := by decide +kernel
theorem dX3_readStatement_158 : decode cX3_readStatement 158 = .ok (.ifCond .eq 41, 3) := by decide +kernel
theorem dX3_readStatement_161 : decode cX3_readStatement 161 = .ok (.aload_n 0, 1) := by decide +kernel
theorem dX3_readStatement_162 : decode cX3_readStatement 162 = .ok (.iconst 2, 1) := by decide +kernel
theorem dX3_readStatement_163 : decode cX3_readStatement 163 = .ok (.invokevirtual 52, 3) := by decide +kernel
theorem dX3_readStatement_166 : decode cX3_readStatement 166 = .ok (.ifCond .eq 33, 3) := by decide +kernel
theorem dX3_readStatement_169 : decode cX3_readStatement 169 = .ok (.aload_n 0, 1) := by decide +kernel
theorem dX3_readStatement_170 : decode cX3_readStatement 170 = .ok (.bipush 44, 2) := by decide +kernel
theorem dX3_readStatement_172 : decode cX3_readStatement 172 = .ok (.invokevirtual 48, 3) := by decide +kernel
theorem dX3_readStatement_175 : decode cX3_readStatement 175 = .ok (.ifCond .eq 24, 3) := by decide +kernel
theorem dX3_readStatement_178 : decode cX3_readStatement 178 = .ok (.aload_n 0, 1) := by decide +kernel
theorem dX3_readStatement_179 : decode cX3_readStatement 179 = .ok (.iconst 1, 1) := by decide +kernel
theorem dX3_readStatement_180 : decode cX3_readStatement 180 = .ok (.invokevirtual 52, 3) := by decide +kernel
theorem dX3_readStatement_183 : decode cX3_readStatement 183 = .ok (.ifCond .eq 16, 3) := by decide +kernel
theorem dX3_readStatement_186 : decode cX3_readStatement 186 = .ok (.aload_n 0, 1) := by decide +kernel
theorem dX3_readStatement_187 : decode cX3_readStatement 187 = .ok (.bipush 59, 2) := by decide +kernel
theorem dX3_readStatement_189 : decode cX3_readStatement 189 = .ok (.invokevirtual 48, 3) := by decide +kernel
theorem dX3_readStatement_192 : decode cX3_readStatement 192 = .ok (.ifCond .eq 7, 3) := by decide +kernel
theorem dX3_readStatement_195 : decode cX3_readStatement 195 = .ok (.iconst 1, 1) := by decide +kernel
theorem dX3_readStatement_196 : decode cX3_readStatement 196 = .ok (.goto 4, 3) := by decide +kernel
theorem dX3_readStatement_199 : decode cX3_readStatement 199 = .ok (.iconst 0, 1) := by decide +kernel
theorem dX3_readStatement_200 : decode cX3_readStatement 200 = .ok (.ireturn, 1) := by decide +kernel
theorem dX3_signHere_0 : decode cX3_signHere 0 = .ok (.aload_n 0, 1) := by decide +kernel
theorem dX3_signHere_1 : decode cX3_signHere 1 = .ok (.getfield 25, 3) := by decide +kernel
theorem dX3_signHere_4 : decode cX3_signHere 4 = .ok (.ifCond .lt 38, 3) := by decide +kernel
theorem dX3_signHere_7 : decode cX3_signHere 7 = .ok (.aload_n 0, 1) := by decide +kernel
theorem dX3_signHere_8 : decode cX3_signHere 8 = .ok (.getfield 25, 3) := by decide +kernel
theorem dX3_signHere_11 : decode cX3_signHere 11 = .ok (.aload_n 0, 1) := by decide +kernel
theorem dX3_signHere_12 : decode cX3_signHere 12 = .ok (.getfield 21, 3) := by decide +kernel
theorem dX3_signHere_15 : decode cX3_signHere 15 = .ok (.if_icmp .ge 27, 3) := by decide +kernel
theorem dX3_signHere_18 : decode cX3_signHere 18 = .ok (.aload_n 0, 1) := by decide +kernel
theorem dX3_signHere_19 : decode cX3_signHere 19 = .ok (.getfield 25, 3) := by decide +kernel
theorem dX3_signHere_22 : decode cX3_signHere 22 = .ok (.aload_n 0, 1) := by decide +kernel
theorem dX3_signHere_23 : decode cX3_signHere 23 = .ok (.getfield 9, 3) := by decide +kernel
theorem dX3_signHere_26 : decode cX3_signHere 26 = .ok (.arraylength, 1) := by decide +kernel
theorem dX3_signHere_27 : decode cX3_signHere 27 = .ok (.if_icmp .ge 15, 3) := by decide +kernel
theorem dX3_signHere_30 : decode cX3_signHere 30 = .ok (.aload_n 0, 1) := by decide +kernel
theorem dX3_signHere_31 : decode cX3_signHere 31 = .ok (.getfield 9, 3) := by decide +kernel
theorem dX3_signHere_34 : decode cX3_signHere 34 = .ok (.aload_n 0, 1) := by decide +kernel
theorem dX3_signHere_35 : decode cX3_signHere 35 = .ok (.getfield 25, 3) := by decide +kernel
theorem dX3_signHere_38 : decode cX3_signHere 38 = .ok (.iaload, 1) := by decide +kernel
theorem dX3_signHere_39 : decode cX3_signHere 39 = .ok (.goto 4, 3) := by decide +kernel
theorem dX3_signHere_42 : decode cX3_signHere 42 = .ok (.iconst (-1), 1) := by decide +kernel
theorem dX3_signHere_43 : decode cX3_signHere 43 = .ok (.ireturn, 1) := by decide +kernel
theorem dX3_takes_0 : decode cX3_takes 0 = .ok (.aload_n 0, 1) := by decide +kernel
theorem dX3_takes_1 : decode cX3_takes 1 = .ok (.invokevirtual 41, 3) := by decide +kernel
theorem dX3_takes_4 : decode cX3_takes 4 = .ok (.iload_n 1, 1) := by decide +kernel
theorem dX3_takes_5 : decode cX3_takes 5 = .ok (.if_icmp .eq 5, 3) := by decide +kernel
theorem dX3_takes_8 : decode cX3_takes 8 = .ok (.iconst 0, 1) := by decide +kernel
theorem dX3_takes_9 : decode cX3_takes 9 = .ok (.ireturn, 1) := by decide +kernel
theorem dX3_takes_10 : decode cX3_takes 10 = .ok (.aload_n 0, 1) := by decide +kernel
theorem dX3_takes_11 : decode cX3_takes 11 = .ok (.dup, 1) := by decide +kernel
theorem dX3_takes_12 : decode cX3_takes 12 = .ok (.getfield 25, 3) := by decide +kernel
theorem dX3_takes_15 : decode cX3_takes 15 = .ok (.iconst 1, 1) := by decide +kernel
theorem dX3_takes_16 : decode cX3_takes 16 = .ok (.iadd, 1) := by decide +kernel
theorem dX3_takes_17 : decode cX3_takes 17 = .ok (.putfield 25, 3) := by decide +kernel
theorem dX3_takes_20 : decode cX3_takes 20 = .ok (.iconst 1, 1) := by decide +kernel
theorem dX3_takes_21 : decode cX3_takes 21 = .ok (.ireturn, 1) := by decide +kernel
theorem dX3_readKind_0 : decode cX3_readKind 0 = .ok (.iconst 0, 1) := by decide +kernel
theorem dX3_readKind_1 : decode cX3_readKind 1 = .ok (.istore_n 1, 1) := by decide +kernel
theorem dX3_readKind_2 : decode cX3_readKind 2 = .ok (.iload_n 1, 1) := by decide +kernel
theorem dX3_readKind_3 : decode cX3_readKind 3 = .ok (.getstatic 59, 3) := by decide +kernel
theorem dX3_readKind_6 : decode cX3_readKind 6 = .ok (.arraylength, 1) := by decide +kernel
theorem dX3_readKind_7 : decode cX3_readKind 7 = .ok (.if_icmp .ge 28, 3) := by decide +kernel
theorem dX3_readKind_10 : decode cX3_readKind 10 = .ok (.aload_n 0, 1) := by decide +kernel
theorem dX3_readKind_11 : decode cX3_readKind 11 = .ok (.getstatic 59, 3) := by decide +kernel
theorem dX3_readKind_14 : decode cX3_readKind 14 = .ok (.iload_n 1, 1) := by decide +kernel
theorem dX3_readKind_15 : decode cX3_readKind 15 = .ok (.caload, 1) := by decide +kernel
theorem dX3_readKind_16 : decode cX3_readKind 16 = .ok (.invokevirtual 48, 3) := by decide +kernel
theorem dX3_readKind_19 : decode cX3_readKind 19 = .ok (.ifCond .eq 10, 3) := by decide +kernel
theorem dX3_readKind_22 : decode cX3_readKind 22 = .ok (.aload_n 0, 1) := by decide +kernel
theorem dX3_readKind_23 : decode cX3_readKind 23 = .ok (.iload_n 1, 1) := by decide +kernel
theorem dX3_readKind_24 : decode cX3_readKind 24 = .ok (.putfield 63, 3) := by decide +kernel
theorem dX3_readKind_27 : decode cX3_readKind 27 = .ok (.iconst 1, 1) := by decide +kernel
theorem dX3_readKind_28 : decode cX3_readKind 28 = .ok (.ireturn, 1) := by decide +kernel
theorem dX3_readKind_29 : decode cX3_readKind 29 = .ok (.iinc 1 1, 3) := by decide +kernel
theorem dX3_readKind_32 : decode cX3_readKind 32 = .ok (.goto (-30), 3) := by decide +kernel
theorem dX3_readKind_35 : decode cX3_readKind 35 = .ok (.iconst 0, 1) := by decide +kernel
theorem dX3_readKind_36 : decode cX3_readKind 36 = .ok (.ireturn, 1) := by decide +kernel
theorem dX3_readDigits_0 : decode cX3_readDigits 0 = .ok (.iconst 0, 1) := by decide +kernel
theorem dX3_readDigits_1 : decode cX3_readDigits 1 = .ok (.istore_n 2, 1) := by decide +kernel
theorem dX3_readDigits_2 : decode cX3_readDigits 2 = .ok (.aload_n 0, 1) := by decide +kernel
theorem dX3_readDigits_3 : decode cX3_readDigits 3 = .ok (.iconst 0, 1) := by decide +kernel
theorem dX3_readDigits_4 : decode cX3_readDigits 4 = .ok (.putfield 31, 3) := by decide +kernel
theorem dX3_readDigits_7 : decode cX3_readDigits 7 = .ok (.aload_n 0, 1) := by decide +kernel
theorem dX3_readDigits_8 : decode cX3_readDigits 8 = .ok (.getfield 31, 3) := by decide +kernel
theorem dX3_readDigits_11 : decode cX3_readDigits 11 = .ok (.iload_n 1, 1) := by decide +kernel
theorem dX3_readDigits_12 : decode cX3_readDigits 12 = .ok (.if_icmp .ge 76, 3) := by decide +kernel
theorem dX3_readDigits_15 : decode cX3_readDigits 15 = .ok (.aload_n 0, 1) := by decide +kernel
theorem dX3_readDigits_16 : decode cX3_readDigits 16 = .ok (.getfield 31, 3) := by decide +kernel
theorem dX3_readDigits_19 : decode cX3_readDigits 19 = .ok (.aload_n 0, 1) := by decide +kernel
theorem dX3_readDigits_20 : decode cX3_readDigits 20 = .ok (.getfield 18, 3) := by decide +kernel
theorem dX3_readDigits_23 : decode cX3_readDigits 23 = .ok (.arraylength, 1) := by decide +kernel
theorem dX3_readDigits_24 : decode cX3_readDigits 24 = .ok (.if_icmp .ge 64, 3) := by decide +kernel
theorem dX3_readDigits_27 : decode cX3_readDigits 27 = .ok (.aload_n 0, 1) := by decide +kernel
theorem dX3_readDigits_28 : decode cX3_readDigits 28 = .ok (.invokevirtual 66, 3) := by decide +kernel
theorem dX3_readDigits_31 : decode cX3_readDigits 31 = .ok (.ifCond .eq 57, 3) := by decide +kernel
theorem dX3_readDigits_34 : decode cX3_readDigits 34 = .ok (.aload_n 0, 1) := by decide +kernel
theorem dX3_readDigits_35 : decode cX3_readDigits 35 = .ok (.getfield 18, 3) := by decide +kernel
theorem dX3_readDigits_38 : decode cX3_readDigits 38 = .ok (.aload_n 0, 1) := by decide +kernel
theorem dX3_readDigits_39 : decode cX3_readDigits 39 = .ok (.getfield 31, 3) := by decide +kernel
theorem dX3_readDigits_42 : decode cX3_readDigits 42 = .ok (.aload_n 0, 1) := by decide +kernel
theorem dX3_readDigits_43 : decode cX3_readDigits 43 = .ok (.invokevirtual 41, 3) := by decide +kernel
theorem dX3_readDigits_46 : decode cX3_readDigits 46 = .ok (.bipush 48, 2) := by decide +kernel
theorem dX3_readDigits_48 : decode cX3_readDigits 48 = .ok (.isub, 1) := by decide +kernel
theorem dX3_readDigits_49 : decode cX3_readDigits 49 = .ok (.iastore, 1) := by decide +kernel
theorem dX3_readDigits_50 : decode cX3_readDigits 50 = .ok (.iload_n 2, 1) := by decide +kernel
theorem dX3_readDigits_51 : decode cX3_readDigits 51 = .ok (.bipush 10, 2) := by decide +kernel
theorem dX3_readDigits_53 : decode cX3_readDigits 53 = .ok (.imul, 1) := by decide +kernel
theorem dX3_readDigits_54 : decode cX3_readDigits 54 = .ok (.aload_n 0, 1) := by decide +kernel
theorem dX3_readDigits_55 : decode cX3_readDigits 55 = .ok (.getfield 18, 3) := by decide +kernel
theorem dX3_readDigits_58 : decode cX3_readDigits 58 = .ok (.aload_n 0, 1) := by decide +kernel
theorem dX3_readDigits_59 : decode cX3_readDigits 59 = .ok (.getfield 31, 3) := by decide +kernel
theorem dX3_readDigits_62 : decode cX3_readDigits 62 = .ok (.iaload, 1) := by decide +kernel
theorem dX3_readDigits_63 : decode cX3_readDigits 63 = .ok (.iadd, 1) := by decide +kernel
theorem dX3_readDigits_64 : decode cX3_readDigits 64 = .ok (.istore_n 2, 1) := by decide +kernel
theorem dX3_readDigits_65 : decode cX3_readDigits 65 = .ok (.aload_n 0, 1) := by decide +kernel
theorem dX3_readDigits_66 : decode cX3_readDigits 66 = .ok (.dup, 1) := by decide +kernel
theorem dX3_readDigits_67 : decode cX3_readDigits 67 = .ok (.getfield 31, 3) := by decide +kernel
theorem dX3_readDigits_70 : decode cX3_readDigits 70 = .ok (.iconst 1, 1) := by decide +kernel
theorem dX3_readDigits_71 : decode cX3_readDigits 71 = .ok (.iadd, 1) := by decide +kernel
theorem dX3_readDigits_72 : decode cX3_readDigits 72 = .ok (.putfield 31, 3) := by decide +kernel
theorem dX3_readDigits_75 : decode cX3_readDigits 75 = .ok (.aload_n 0, 1) := by decide +kernel
theorem dX3_readDigits_76 : decode cX3_readDigits 76 = .ok (.dup, 1) := by decide +kernel
theorem dX3_readDigits_77 : decode cX3_readDigits 77 = .ok (.getfield 25, 3) := by decide +kernel
theorem dX3_readDigits_80 : decode cX3_readDigits 80 = .ok (.iconst 1, 1) := by decide +kernel
theorem dX3_readDigits_81 : decode cX3_readDigits 81 = .ok (.iadd, 1) := by decide +kernel
theorem dX3_readDigits_82 : decode cX3_readDigits 82 = .ok (.putfield 25, 3) := by decide +kernel
theorem dX3_readDigits_85 : decode cX3_readDigits 85 = .ok (.goto (-78), 3) := by decide +kernel
theorem dX3_readDigits_88 : decode cX3_readDigits 88 = .ok (.aload_n 0, 1) := by decide +kernel
theorem dX3_readDigits_89 : decode cX3_readDigits 89 = .ok (.getfield 28, 3) := by decide +kernel
theorem dX3_readDigits_92 : decode cX3_readDigits 92 = .ok (.aload_n 0, 1) := by decide +kernel
theorem dX3_readDigits_93 : decode cX3_readDigits 93 = .ok (.getfield 15, 3) := by decide +kernel
theorem dX3_readDigits_96 : decode cX3_readDigits 96 = .ok (.arraylength, 1) := by decide +kernel
theorem dX3_readDigits_97 : decode cX3_readDigits 97 = .ok (.if_icmp .ge 23, 3) := by decide +kernel
theorem dX3_readDigits_100 : decode cX3_readDigits 100 = .ok (.aload_n 0, 1) := by decide +kernel
theorem dX3_readDigits_101 : decode cX3_readDigits 101 = .ok (.getfield 15, 3) := by decide +kernel
theorem dX3_readDigits_104 : decode cX3_readDigits 104 = .ok (.aload_n 0, 1) := by decide +kernel
theorem dX3_readDigits_105 : decode cX3_readDigits 105 = .ok (.getfield 28, 3) := by decide +kernel
theorem dX3_readDigits_108 : decode cX3_readDigits 108 = .ok (.iload_n 2, 1) := by decide +kernel
theorem dX3_readDigits_109 : decode cX3_readDigits 109 = .ok (.iastore, 1) := by decide +kernel
theorem dX3_readDigits_110 : decode cX3_readDigits 110 = .ok (.aload_n 0, 1) := by decide +kernel
theorem dX3_readDigits_111 : decode cX3_readDigits 111 = .ok (.dup, 1) := by decide +kernel
theorem dX3_readDigits_112 : decode cX3_readDigits 112 = .ok (.getfield 28, 3) := by decide +kernel
theorem dX3_readDigits_115 : decode cX3_readDigits 115 = .ok (.iconst 1, 1) := by decide +kernel
theorem dX3_readDigits_116 : decode cX3_readDigits 116 = .ok (.iadd, 1) := by decide +kernel
theorem dX3_readDigits_117 : decode cX3_readDigits 117 = .ok (.putfield 28, 3) := by decide +kernel
theorem dX3_readDigits_120 : decode cX3_readDigits 120 = .ok (.aload_n 0, 1) := by decide +kernel
theorem dX3_readDigits_121 : decode cX3_readDigits 121 = .ok (.getfield 31, 3) := by decide +kernel
theorem dX3_readDigits_124 : decode cX3_readDigits 124 = .ok (.ifCond .le 7, 3) := by decide +kernel
theorem dX3_readDigits_127 : decode cX3_readDigits 127 = .ok (.iconst 1, 1) := by decide +kernel
theorem dX3_readDigits_128 : decode cX3_readDigits 128 = .ok (.goto 4, 3) := by decide +kernel
theorem dX3_readDigits_131 : decode cX3_readDigits 131 = .ok (.iconst 0, 1) := by decide +kernel
theorem dX3_readDigits_132 : decode cX3_readDigits 132 = .ok (.ireturn, 1) := by decide +kernel
theorem dX3_isDigitHere_0 : decode cX3_isDigitHere 0 = .ok (.aload_n 0, 1) := by decide +kernel
theorem dX3_isDigitHere_1 : decode cX3_isDigitHere 1 = .ok (.invokevirtual 41, 3) := by decide +kernel
theorem dX3_isDigitHere_4 : decode cX3_isDigitHere 4 = .ok (.istore_n 1, 1) := by decide +kernel
theorem dX3_isDigitHere_5 : decode cX3_isDigitHere 5 = .ok (.iload_n 1, 1) := by decide +kernel
theorem dX3_isDigitHere_6 : decode cX3_isDigitHere 6 = .ok (.bipush 48, 2) := by decide +kernel
theorem dX3_isDigitHere_8 : decode cX3_isDigitHere 8 = .ok (.if_icmp .lt 13, 3) := by decide +kernel
theorem dX3_isDigitHere_11 : decode cX3_isDigitHere 11 = .ok (.iload_n 1, 1) := by decide +kernel
theorem dX3_isDigitHere_12 : decode cX3_isDigitHere 12 = .ok (.bipush 57, 2) := by decide +kernel
theorem dX3_isDigitHere_14 : decode cX3_isDigitHere 14 = .ok (.if_icmp .gt 7, 3) := by decide +kernel
theorem dX3_isDigitHere_17 : decode cX3_isDigitHere 17 = .ok (.iconst 1, 1) := by decide +kernel
theorem dX3_isDigitHere_18 : decode cX3_isDigitHere 18 = .ok (.goto 4, 3) := by decide +kernel
theorem dX3_isDigitHere_21 : decode cX3_isDigitHere 21 = .ok (.iconst 0, 1) := by decide +kernel
theorem dX3_isDigitHere_22 : decode cX3_isDigitHere 22 = .ok (.ireturn, 1) := by decide +kernel
theorem dX4_init_0 : decode cX4_init 0 = .ok (.aload_n 0, 1) := by decide +kernel
theorem dX4_init_1 : decode cX4_init 1 = .ok (.invokespecial 3, 3) := by decide +kernel
theorem dX4_init_4 : decode cX4_init 4 = .ok (.aload_n 0, 1) := by decide +kernel
theorem dX4_init_5 : decode cX4_init 5 = .ok (.sipush 2187, 3) := by decide +kernel
theorem dX4_init_8 : decode cX4_init 8 = .ok (.newarray .int, 2) := by decide +kernel
theorem dX4_init_10 : decode cX4_init 10 = .ok (.putfield 9, 3) := by decide +kernel
theorem dX4_init_13 : decode cX4_init 13 = .ok (.aload_n 0, 1) := by decide +kernel
theorem dX4_init_14 : decode cX4_init 14 = .ok (.bipush 7, 2) := by decide +kernel
theorem dX4_init_16 : decode cX4_init 16 = .ok (.newarray .int, 2) := by decide +kernel
theorem dX4_init_18 : decode cX4_init 18 = .ok (.putfield 15, 3) := by decide +kernel
theorem dX4_init_21 : decode cX4_init 21 = .ok (.aload_n 0, 1) := by decide +kernel
theorem dX4_init_22 : decode cX4_init 22 = .ok (.bipush 13, 2) := by decide +kernel
theorem dX4_init_24 : decode cX4_init 24 = .ok (.newarray .int, 2) := by decide +kernel
theorem dX4_init_26 : decode cX4_init 26 = .ok (.putfield 18, 3) := by decide +kernel
theorem dX4_init_29 : decode cX4_init 29 = .ok (.return_, 1) := by decide +kernel
theorem dX4_lead_0 : decode cX4_lead 0 = .ok (.aload_n 0, 1) := by decide +kernel
theorem dX4_lead_1 : decode cX4_lead 1 = .ok (.aload_n 1, 1) := by decide +kernel
theorem dX4_lead_2 : decode cX4_lead 2 = .ok (.getfield 21, 3) := by decide +kernel
theorem dX4_lead_5 : decode cX4_lead 5 = .ok (.putfield 27, 3) := by decide +kernel
theorem dX4_lead_8 : decode cX4_lead 8 = .ok (.aload_n 0, 1) := by decide +kernel
theorem dX4_lead_9 : decode cX4_lead 9 = .ok (.aload_n 1, 1) := by decide +kernel
theorem dX4_lead_10 : decode cX4_lead 10 = .ok (.getfield 28, 3) := by decide +kernel
theorem dX4_lead_13 : decode cX4_lead 13 = .ok (.putfield 31, 3) := by decide +kernel
theorem dX4_lead_16 : decode cX4_lead 16 = .ok (.aload_n 0, 1) := by decide +kernel
theorem dX4_lead_17 : decode cX4_lead 17 = .ok (.getfield 9, 3) := by decide +kernel
theorem dX4_lead_20 : decode cX4_lead 20 = .ok (.iconst 0, 1) := by decide +kernel
theorem dX4_lead_21 : decode cX4_lead 21 = .ok (.iload_n 2, 1) := by decide +kernel
theorem dX4_lead_22 : decode cX4_lead 22 = .ok (.iastore, 1) := by decide +kernel
theorem dX4_lead_23 : decode cX4_lead 23 = .ok (.aload_n 0, 1) := by decide +kernel
theorem dX4_lead_24 : decode cX4_lead 24 = .ok (.iconst 1, 1) := by decide +kernel
theorem dX4_lead_25 : decode cX4_lead 25 = .ok (.putfield 32, 3) := by decide +kernel
theorem dX4_lead_28 : decode cX4_lead 28 = .ok (.aload_n 0, 1) := by decide +kernel
theorem dX4_lead_29 : decode cX4_lead 29 = .ok (.getfield 27, 3) := by decide +kernel
theorem dX4_lead_32 : decode cX4_lead 32 = .ok (.iconst 1, 1) := by decide +kernel
theorem dX4_lead_33 : decode cX4_lead 33 = .ok (.isub, 1) := by decide +kernel
theorem dX4_lead_34 : decode cX4_lead 34 = .ok (.istore_n 3, 1) := by decide +kernel
theorem dX4_lead_35 : decode cX4_lead 35 = .ok (.iload_n 3, 1) := by decide +kernel
theorem dX4_lead_36 : decode cX4_lead 36 = .ok (.ifCond .lt 37, 3) := by decide +kernel
theorem dX4_lead_39 : decode cX4_lead 39 = .ok (.iload_n 3, 1) := by decide +kernel
theorem dX4_lead_40 : decode cX4_lead 40 = .ok (.aload_n 0, 1) := by decide +kernel
theorem dX4_lead_41 : decode cX4_lead 41 = .ok (.getfield 15, 3) := by decide +kernel
theorem dX4_lead_44 : decode cX4_lead 44 = .ok (.arraylength, 1) := by decide +kernel
theorem dX4_lead_45 : decode cX4_lead 45 = .ok (.if_icmp .ge 22, 3) := by decide +kernel
theorem dX4_lead_48 : decode cX4_lead 48 = .ok (.aload_n 0, 1) := by decide +kernel
theorem dX4_lead_49 : decode cX4_lead 49 = .ok (.getfield 15, 3) := by decide +kernel
theorem dX4_lead_52 : decode cX4_lead 52 = .ok (.iload_n 3, 1) := by decide +kernel
theorem dX4_lead_53 : decode cX4_lead 53 = .ok (.aload_n 0, 1) := by decide +kernel
theorem dX4_lead_54 : decode cX4_lead 54 = .ok (.getfield 32, 3) := by decide +kernel
theorem dX4_lead_57 : decode cX4_lead 57 = .ok (.iastore, 1) := by decide +kernel
theorem dX4_lead_58 : decode cX4_lead 58 = .ok (.aload_n 0, 1) := by decide +kernel
theorem dX4_lead_59 : decode cX4_lead 59 = .ok (.aload_n 1, 1) := by decide +kernel
theorem dX4_lead_60 : decode cX4_lead 60 = .ok (.iload_n 3, 1) := by decide +kernel
theorem dX4_lead_61 : decode cX4_lead 61 = .ok (.invokevirtual 35, 3) := by decide +kernel
theorem dX4_lead_64 : decode cX4_lead 64 = .ok (.invokevirtual 39, 3) := by decide +kernel
theorem dX4_lead_67 : decode cX4_lead 67 = .ok (.iinc 3 (-1), 3) := by decide +kernel
theorem dX4_lead_70 : decode cX4_lead 70 = .ok (.goto (-35), 3) := by decide +kernel
theorem dX4_lead_73 : decode cX4_lead 73 = .ok (.return_, 1) := by decide +kernel
theorem dX4_goOnceMore_0 : decode cX4_goOnceMore 0 = .ok (.aload_n 0, 1) := by decide +kernel
theorem dX4_goOnceMore_1 : decode cX4_goOnceMore 1 = .ok (.getfield 32, 3) := by decide +kernel
theorem dX4_goOnceMore_4 : decode cX4_goOnceMore 4 = .ok (.istore_n 2, 1) := by decide +kernel
theorem dX4_goOnceMore_5 : decode cX4_goOnceMore 5 = .ok (.iload_n 2, 1) := by decide +kernel
theorem dX4_goOnceMore_6 : decode cX4_goOnceMore 6 = .ok (.aload_n 0, 1) := by decide +kernel
theorem dX4_goOnceMore_7 : decode cX4_goOnceMore 7 = .ok (.getfield 31, 3) := by decide +kernel
theorem dX4_goOnceMore_10 : decode cX4_goOnceMore 10 = .ok (.imul, 1) := by decide +kernel
theorem dX4_goOnceMore_11 : decode cX4_goOnceMore 11 = .ok (.istore_n 3, 1) := by decide +kernel
theorem dX4_goOnceMore_12 : decode cX4_goOnceMore 12 = .ok (.iload_n 2, 1) := by decide +kernel
theorem dX4_goOnceMore_13 : decode cX4_goOnceMore 13 = .ok (.istore 4, 2) := by decide +kernel
theorem dX4_goOnceMore_15 : decode cX4_goOnceMore 15 = .ok (.iload 4, 2) := by decide +kernel
theorem dX4_goOnceMore_17 : decode cX4_goOnceMore 17 = .ok (.iload_n 3, 1) := by decide +kernel
theorem dX4_goOnceMore_18 : decode cX4_goOnceMore 18 = .ok (.if_icmp .ge 43, 3) := by decide +kernel
theorem dX4_goOnceMore_21 : decode cX4_goOnceMore 21 = .ok (.iload 4, 2) := by decide +kernel
theorem dX4_goOnceMore_23 : decode cX4_goOnceMore 23 = .ok (.aload_n 0, 1) := by decide +kernel
theorem dX4_goOnceMore_24 : decode cX4_goOnceMore 24 = .ok (.getfield 9, 3) := by decide +kernel
theorem dX4_goOnceMore_27 : decode cX4_goOnceMore 27 = .ok (.arraylength, 1) := by decide +kernel
theorem dX4_goOnceMore_28 : decode cX4_goOnceMore 28 = .ok (.if_icmp .ge 33, 3) := by decide +kernel
theorem dX4_goOnceMore_31 : decode cX4_goOnceMore 31 = .ok (.aload_n 0, 1) := by decide +kernel
theorem dX4_goOnceMore_32 : decode cX4_goOnceMore 32 = .ok (.getfield 9, 3) := by decide +kernel
theorem dX4_goOnceMore_35 : decode cX4_goOnceMore 35 = .ok (.iload 4, 2) := by decide +kernel
theorem dX4_goOnceMore_37 : decode cX4_goOnceMore 37 = .ok (.aload_n 0, 1) := by decide +kernel
theorem dX4_goOnceMore_38 : decode cX4_goOnceMore 38 = .ok (.getfield 9, 3) := by decide +kernel
theorem dX4_goOnceMore_41 : decode cX4_goOnceMore 41 = .ok (.iload 4, 2) := by decide +kernel
theorem dX4_goOnceMore_43 : decode cX4_goOnceMore 43 = .ok (.iload_n 2, 1) := by decide +kernel
theorem dX4_goOnceMore_44 : decode cX4_goOnceMore 44 = .ok (.isub, 1) := by decide +kernel
theorem dX4_goOnceMore_45 : decode cX4_goOnceMore 45 = .ok (.iaload, 1) := by decide +kernel
theorem dX4_goOnceMore_46 : decode cX4_goOnceMore 46 = .ok (.iload_n 1, 1) := by decide +kernel
theorem dX4_goOnceMore_47 : decode cX4_goOnceMore 47 = .ok (.aload_n 0, 1) := by decide +kernel
theorem dX4_goOnceMore_48 : decode cX4_goOnceMore 48 = .ok (.getfield 31, 3) := by decide +kernel
theorem dX4_goOnceMore_51 : decode cX4_goOnceMore 51 = .ok (.invokestatic 43, 3) := by decide +kernel
theorem dX4_goOnceMore_54 : decode cX4_goOnceMore 54 = .ok (.iastore, 1) := by decide +kernel
theorem dX4_goOnceMore_55 : decode cX4_goOnceMore 55 = .ok (.iinc 4 1, 3) := by decide +kernel
theorem dX4_goOnceMore_58 : decode cX4_goOnceMore 58 = .ok (.goto (-43), 3) := by decide +kernel
theorem dX4_goOnceMore_61 : decode cX4_goOnceMore 61 = .ok (.aload_n 0, 1) := by decide +kernel
theorem dX4_goOnceMore_62 : decode cX4_goOnceMore 62 = .ok (.iload_n 3, 1) := by decide +kernel
theorem dX4_goOnceMore_63 : decode cX4_goOnceMore 63 = .ok (.putfield 32, 3) := by decide +kernel
theorem dX4_goOnceMore_66 : decode cX4_goOnceMore 66 = .ok (.return_, 1) := by decide +kernel
theorem dX4_endOf_0 : decode cX4_endOf 0 = .ok (.iload_n 1, 1) := by decide +kernel
theorem dX4_endOf_1 : decode cX4_endOf 1 = .ok (.ifCond .lt 29, 3) := by decide +kernel
theorem dX4_endOf_4 : decode cX4_endOf 4 = .ok (.iload_n 1, 1) := by decide +kernel
theorem dX4_endOf_5 : decode cX4_endOf 5 = .ok (.aload_n 0, 1) := by decide +kernel
theorem dX4_endOf_6 : decode cX4_endOf 6 = .ok (.getfield 32, 3) := by decide +kernel
theorem dX4_endOf_9 : decode cX4_endOf 9 = .ok (.if_icmp .ge 21, 3) := by decide +kernel
theorem dX4_endOf_12 : decode cX4_endOf 12 = .ok (.iload_n 1, 1) := by decide +kernel
theorem dX4_endOf_13 : decode cX4_endOf 13 = .ok (.aload_n 0, 1) := by decide +kernel
theorem dX4_endOf_14 : decode cX4_endOf 14 = .ok (.getfield 9, 3) := by decide +kernel
theorem dX4_endOf_17 : decode cX4_endOf 17 = .ok (.arraylength, 1) := by decide +kernel
theorem dX4_endOf_18 : decode cX4_endOf 18 = .ok (.if_icmp .ge 12, 3) := by decide +kernel
theorem dX4_endOf_21 : decode cX4_endOf 21 = .ok (.aload_n 0, 1) := by decide +kernel
theorem dX4_endOf_22 : decode cX4_endOf 22 = .ok (.getfield 9, 3) := by decide +kernel
theorem dX4_endOf_25 : decode cX4_endOf 25 = .ok (.iload_n 1, 1) := by decide +kernel
theorem dX4_endOf_26 : decode cX4_endOf 26 = .ok (.iaload, 1) := by decide +kernel
theorem dX4_endOf_27 : decode cX4_endOf 27 = .ok (.goto 4, 3) := by decide +kernel
theorem dX4_endOf_30 : decode cX4_endOf 30 = .ok (.iconst 0, 1) := by decide +kernel
theorem dX4_endOf_31 : decode cX4_endOf 31 = .ok (.ireturn, 1) := by decide +kernel
theorem dX4_endingAt_0 : decode cX4_endingAt 0 = .ok (.iconst 0, 1) := by decide +kernel
theorem dX4_endingAt_1 : decode cX4_endingAt 1 = .ok (.istore_n 2, 1) := by decide +kernel
theorem dX4_endingAt_2 : decode cX4_endingAt 2 = .ok (.iconst 0, 1) := by decide +kernel
theorem dX4_endingAt_3 : decode cX4_endingAt 3 = .ok (.istore_n 3, 1) := by decide +kernel
theorem dX4_endingAt_4 : decode cX4_endingAt 4 = .ok (.iload_n 3, 1) := by decide +kernel
theorem dX4_endingAt_5 : decode cX4_endingAt 5 = .ok (.aload_n 0, 1) := by decide +kernel
theorem dX4_endingAt_6 : decode cX4_endingAt 6 = .ok (.getfield 32, 3) := by decide +kernel
theorem dX4_endingAt_9 : decode cX4_endingAt 9 = .ok (.if_icmp .ge 21, 3) := by decide +kernel
theorem dX4_endingAt_12 : decode cX4_endingAt 12 = .ok (.aload_n 0, 1) := by decide +kernel
theorem dX4_endingAt_13 : decode cX4_endingAt 13 = .ok (.iload_n 3, 1) := by decide +kernel
theorem dX4_endingAt_14 : decode cX4_endingAt 14 = .ok (.invokevirtual 47, 3) := by decide +kernel
theorem dX4_endingAt_17 : decode cX4_endingAt 17 = .ok (.iload_n 1, 1) := by decide +kernel
theorem dX4_endingAt_18 : decode cX4_endingAt 18 = .ok (.if_icmp .ne 6, 3) := by decide +kernel
theorem dX4_endingAt_21 : decode cX4_endingAt 21 = .ok (.iinc 2 1, 3) := by decide +kernel
theorem dX4_endingAt_24 : decode cX4_endingAt 24 = .ok (.iinc 3 1, 3) := by decide +kernel
theorem dX4_endingAt_27 : decode cX4_endingAt 27 = .ok (.goto (-23), 3) := by decide +kernel
theorem dX4_endingAt_30 : decode cX4_endingAt 30 = .ok (.iload_n 2, 1) := by decide +kernel
theorem dX4_endingAt_31 : decode cX4_endingAt 31 = .ok (.ireturn, 1) := by decide +kernel
theorem dX4_weightOf_0 : decode cX4_weightOf 0 = .ok (.iload_n 1, 1) := by decide +kernel
theorem dX4_weightOf_1 : decode cX4_weightOf 1 = .ok (.ifCond .lt 29, 3) := by decide +kernel
theorem dX4_weightOf_4 : decode cX4_weightOf 4 = .ok (.iload_n 1, 1) := by decide +kernel
theorem dX4_weightOf_5 : decode cX4_weightOf 5 = .ok (.aload_n 0, 1) := by decide +kernel
theorem dX4_weightOf_6 : decode cX4_weightOf 6 = .ok (.getfield 27, 3) := by decide +kernel
theorem dX4_weightOf_9 : decode cX4_weightOf 9 = .ok (.if_icmp .ge 21, 3) := by decide +kernel
theorem dX4_weightOf_12 : decode cX4_weightOf 12 = .ok (.iload_n 1, 1) := by decide +kernel
theorem dX4_weightOf_13 : decode cX4_weightOf 13 = .ok (.aload_n 0, 1) := by decide +kernel
theorem dX4_weightOf_14 : decode cX4_weightOf 14 = .ok (.getfield 15, 3) := by decide +kernel
theorem dX4_weightOf_17 : decode cX4_weightOf 17 = .ok (.arraylength, 1) := by decide +kernel
theorem dX4_weightOf_18 : decode cX4_weightOf 18 = .ok (.if_icmp .ge 12, 3) := by decide +kernel
theorem dX4_weightOf_21 : decode cX4_weightOf 21 = .ok (.aload_n 0, 1) := by decide +kernel
theorem dX4_weightOf_22 : decode cX4_weightOf 22 = .ok (.getfield 15, 3) := by decide +kernel
theorem dX4_weightOf_25 : decode cX4_weightOf 25 = .ok (.iload_n 1, 1) := by decide +kernel
theorem dX4_weightOf_26 : decode cX4_weightOf 26 = .ok (.iaload, 1) := by decide +kernel
theorem dX4_weightOf_27 : decode cX4_weightOf 27 = .ok (.goto 4, 3) := by decide +kernel
theorem dX4_weightOf_30 : decode cX4_weightOf 30 = .ok (.iconst 0, 1) := by decide +kernel
theorem dX4_weightOf_31 : decode cX4_weightOf 31 = .ok (.ireturn, 1) := by decide +kernel
theorem dX4_timesIn_0 : decode cX4_timesIn 0 = .ok (.iload_n 1, 1) := by decide +kernel
theorem dX4_timesIn_1 : decode cX4_timesIn 1 = .ok (.aload_n 0, 1) := by decide +kernel
theorem dX4_timesIn_2 : decode cX4_timesIn 2 = .ok (.iload_n 2, 1) := by decide +kernel
theorem dX4_timesIn_3 : decode cX4_timesIn 3 = .ok (.invokevirtual 50, 3) := by decide +kernel
theorem dX4_timesIn_6 : decode cX4_timesIn 6 = .ok (.invokestatic 53, 3) := by decide +kernel
theorem dX4_timesIn_9 : decode cX4_timesIn 9 = .ok (.aload_n 0, 1) := by decide +kernel
theorem dX4_timesIn_10 : decode cX4_timesIn 10 = .ok (.getfield 31, 3) := by decide +kernel
theorem dX4_timesIn_13 : decode cX4_timesIn 13 = .ok (.invokestatic 57, 3) := by decide +kernel
theorem dX4_timesIn_16 : decode cX4_timesIn 16 = .ok (.ireturn, 1) := by decide +kernel
theorem dX4_goingsIn_0 : decode cX4_goingsIn 0 = .ok (.iconst 0, 1) := by decide +kernel
theorem dX4_goingsIn_1 : decode cX4_goingsIn 1 = .ok (.istore_n 2, 1) := by decide +kernel
theorem dX4_goingsIn_2 : decode cX4_goingsIn 2 = .ok (.iconst 0, 1) := by decide +kernel
theorem dX4_goingsIn_3 : decode cX4_goingsIn 3 = .ok (.istore_n 3, 1) := by decide +kernel
theorem dX4_goingsIn_4 : decode cX4_goingsIn 4 = .ok (.iload_n 3, 1) := by decide +kernel
theorem dX4_goingsIn_5 : decode cX4_goingsIn 5 = .ok (.aload_n 0, 1) := by decide +kernel
theorem dX4_goingsIn_6 : decode cX4_goingsIn 6 = .ok (.getfield 27, 3) := by decide +kernel
theorem dX4_goingsIn_9 : decode cX4_goingsIn 9 = .ok (.if_icmp .ge 18, 3) := by decide +kernel
theorem dX4_goingsIn_12 : decode cX4_goingsIn 12 = .ok (.iload_n 2, 1) := by decide +kernel
theorem dX4_goingsIn_13 : decode cX4_goingsIn 13 = .ok (.aload_n 0, 1) := by decide +kernel
theorem dX4_goingsIn_14 : decode cX4_goingsIn 14 = .ok (.iload_n 1, 1) := by decide +kernel
theorem dX4_goingsIn_15 : decode cX4_goingsIn 15 = .ok (.iload_n 3, 1) := by decide +kernel
theorem dX4_goingsIn_16 : decode cX4_goingsIn 16 = .ok (.invokevirtual 60, 3) := by decide +kernel
theorem dX4_goingsIn_19 : decode cX4_goingsIn 19 = .ok (.iadd, 1) := by decide +kernel
theorem dX4_goingsIn_20 : decode cX4_goingsIn 20 = .ok (.istore_n 2, 1) := by decide +kernel
theorem dX4_goingsIn_21 : decode cX4_goingsIn 21 = .ok (.iinc 3 1, 3) := by decide +kernel
theorem dX4_goingsIn_24 : decode cX4_goingsIn 24 = .ok (.goto (-20), 3) := by decide +kernel
theorem dX4_goingsIn_27 : decode cX4_goingsIn 27 = .ok (.iload_n 2, 1) := by decide +kernel
theorem dX4_goingsIn_28 : decode cX4_goingsIn 28 = .ok (.ireturn, 1) := by decide +kernel
theorem dX4_costOf_0 : decode cX4_costOf 0 = .ok (.iconst 0, 1) := by decide +kernel
theorem dX4_costOf_1 : decode cX4_costOf 1 = .ok (.istore_n 3, 1) := by decide +kernel
theorem dX4_costOf_2 : decode cX4_costOf 2 = .ok (.iconst 0, 1) := by decide +kernel
theorem dX4_costOf_3 : decode cX4_costOf 3 = .ok (.istore 4, 2) := by decide +kernel
theorem dX4_costOf_5 : decode cX4_costOf 5 = .ok (.iload 4, 2) := by decide +kernel
theorem dX4_costOf_7 : decode cX4_costOf 7 = .ok (.aload_n 0, 1) := by decide +kernel
theorem dX4_costOf_8 : decode cX4_costOf 8 = .ok (.getfield 27, 3) := by decide +kernel
theorem dX4_costOf_11 : decode cX4_costOf 11 = .ok (.if_icmp .ge 38, 3) := by decide +kernel
theorem dX4_costOf_14 : decode cX4_costOf 14 = .ok (.aload_n 2, 1) := by decide +kernel
theorem dX4_costOf_15 : decode cX4_costOf 15 = .ok (.iload 4, 2) := by decide +kernel
theorem dX4_costOf_17 : decode cX4_costOf 17 = .ok (.invokevirtual 63, 3) := by decide +kernel
theorem dX4_costOf_20 : decode cX4_costOf 20 = .ok (.astore 5, 2) := by decide +kernel
theorem dX4_costOf_22 : decode cX4_costOf 22 = .ok (.aload 5, 2) := by decide +kernel
theorem dX4_costOf_24 : decode cX4_costOf 24 = .ok (.ifnull 19, 3) := by decide +kernel
theorem dX4_costOf_27 : decode cX4_costOf 27 = .ok (.iload_n 3, 1) := by decide +kernel
theorem dX4_costOf_28 : decode cX4_costOf 28 = .ok (.aload_n 0, 1) := by decide +kernel
theorem dX4_costOf_29 : decode cX4_costOf 29 = .ok (.iload_n 1, 1) := by decide +kernel
theorem dX4_costOf_30 : decode cX4_costOf 30 = .ok (.iload 4, 2) := by decide +kernel
theorem dX4_costOf_32 : decode cX4_costOf 32 = .ok (.invokevirtual 60, 3) := by decide +kernel
theorem dX4_costOf_35 : decode cX4_costOf 35 = .ok (.aload 5, 2) := by decide +kernel
theorem dX4_costOf_37 : decode cX4_costOf 37 = .ok (.getfield 67, 3) := by decide +kernel
theorem dX4_costOf_40 : decode cX4_costOf 40 = .ok (.imul, 1) := by decide +kernel
theorem dX4_costOf_41 : decode cX4_costOf 41 = .ok (.iadd, 1) := by decide +kernel
theorem dX4_costOf_42 : decode cX4_costOf 42 = .ok (.istore_n 3, 1) := by decide +kernel
theorem dX4_costOf_43 : decode cX4_costOf 43 = .ok (.iinc 4 1, 3) := by decide +kernel
theorem dX4_costOf_46 : decode cX4_costOf 46 = .ok (.goto (-41), 3) := by decide +kernel
theorem dX4_costOf_49 : decode cX4_costOf 49 = .ok (.iload_n 3, 1) := by decide +kernel
theorem dX4_costOf_50 : decode cX4_costOf 50 = .ok (.ireturn, 1) := by decide +kernel
theorem dX4_goersIn_0 : decode cX4_goersIn 0 = .ok (.iconst 0, 1) := by decide +kernel
theorem dX4_goersIn_1 : decode cX4_goersIn 1 = .ok (.istore_n 2, 1) := by decide +kernel
theorem dX4_goersIn_2 : decode cX4_goersIn 2 = .ok (.iconst 0, 1) := by decide +kernel
theorem dX4_goersIn_3 : decode cX4_goersIn 3 = .ok (.istore_n 3, 1) := by decide +kernel
theorem dX4_goersIn_4 : decode cX4_goersIn 4 = .ok (.iload_n 3, 1) := by decide +kernel
theorem dX4_goersIn_5 : decode cX4_goersIn 5 = .ok (.aload_n 0, 1) := by decide +kernel
theorem dX4_goersIn_6 : decode cX4_goersIn 6 = .ok (.getfield 27, 3) := by decide +kernel
theorem dX4_goersIn_9 : decode cX4_goersIn 9 = .ok (.if_icmp .ge 24, 3) := by decide +kernel
theorem dX4_goersIn_12 : decode cX4_goersIn 12 = .ok (.aload_n 0, 1) := by decide +kernel
theorem dX4_goersIn_13 : decode cX4_goersIn 13 = .ok (.iload_n 1, 1) := by decide +kernel
theorem dX4_goersIn_14 : decode cX4_goersIn 14 = .ok (.iload_n 3, 1) := by decide +kernel
theorem dX4_goersIn_15 : decode cX4_goersIn 15 = .ok (.invokevirtual 60, 3) := by decide +kernel
theorem dX4_goersIn_18 : decode cX4_goersIn 18 = .ok (.ifCond .le 9, 3) := by decide +kernel
theorem dX4_goersIn_21 : decode cX4_goersIn 21 = .ok (.iload_n 2, 1) := by decide +kernel
theorem dX4_goersIn_22 : decode cX4_goersIn 22 = .ok (.iconst 1, 1) := by decide +kernel
theorem dX4_goersIn_23 : decode cX4_goersIn 23 = .ok (.iload_n 3, 1) := by decide +kernel
theorem dX4_goersIn_24 : decode cX4_goersIn 24 = .ok (.ishl, 1) := by decide +kernel
theorem dX4_goersIn_25 : decode cX4_goersIn 25 = .ok (.ior, 1) := by decide +kernel
theorem dX4_goersIn_26 : decode cX4_goersIn 26 = .ok (.istore_n 2, 1) := by decide +kernel
theorem dX4_goersIn_27 : decode cX4_goersIn 27 = .ok (.iinc 3 1, 3) := by decide +kernel
theorem dX4_goersIn_30 : decode cX4_goersIn 30 = .ok (.goto (-26), 3) := by decide +kernel
theorem dX4_goersIn_33 : decode cX4_goersIn 33 = .ok (.iload_n 2, 1) := by decide +kernel
theorem dX4_goersIn_34 : decode cX4_goersIn 34 = .ok (.ireturn, 1) := by decide +kernel
theorem dX4_before_0 : decode cX4_before 0 = .ok (.aload_n 0, 1) := by decide +kernel
theorem dX4_before_1 : decode cX4_before 1 = .ok (.iload_n 2, 1) := by decide +kernel
theorem dX4_before_2 : decode cX4_before 2 = .ok (.invokevirtual 50, 3) := by decide +kernel
theorem dX4_before_5 : decode cX4_before 5 = .ok (.istore_n 3, 1) := by decide +kernel
theorem dX4_before_6 : decode cX4_before 6 = .ok (.aload_n 0, 1) := by decide +kernel
theorem dX4_before_7 : decode cX4_before 7 = .ok (.iload_n 1, 1) := by decide +kernel
theorem dX4_before_8 : decode cX4_before 8 = .ok (.iload_n 2, 1) := by decide +kernel
theorem dX4_before_9 : decode cX4_before 9 = .ok (.invokevirtual 60, 3) := by decide +kernel
theorem dX4_before_12 : decode cX4_before 12 = .ok (.ifCond .le 9, 3) := by decide +kernel
theorem dX4_before_15 : decode cX4_before 15 = .ok (.iload_n 1, 1) := by decide +kernel
theorem dX4_before_16 : decode cX4_before 16 = .ok (.iload_n 3, 1) := by decide +kernel
theorem dX4_before_17 : decode cX4_before 17 = .ok (.isub, 1) := by decide +kernel
theorem dX4_before_18 : decode cX4_before 18 = .ok (.goto 13, 3) := by decide +kernel
theorem dX4_before_21 : decode cX4_before 21 = .ok (.iload_n 1, 1) := by decide +kernel
theorem dX4_before_22 : decode cX4_before 22 = .ok (.aload_n 0, 1) := by decide +kernel
theorem dX4_before_23 : decode cX4_before 23 = .ok (.getfield 31, 3) := by decide +kernel
theorem dX4_before_26 : decode cX4_before 26 = .ok (.iconst 1, 1) := by decide +kernel
theorem dX4_before_27 : decode cX4_before 27 = .ok (.isub, 1) := by decide +kernel
theorem dX4_before_28 : decode cX4_before 28 = .ok (.iload_n 3, 1) := by decide +kernel
theorem dX4_before_29 : decode cX4_before 29 = .ok (.imul, 1) := by decide +kernel
theorem dX4_before_30 : decode cX4_before 30 = .ok (.iadd, 1) := by decide +kernel
theorem dX4_before_31 : decode cX4_before 31 = .ok (.ireturn, 1) := by decide +kernel
theorem dX4_bringAll_0 : decode cX4_bringAll 0 = .ok (.iconst 0, 1) := by decide +kernel
theorem dX4_bringAll_1 : decode cX4_bringAll 1 = .ok (.istore_n 3, 1) := by decide +kernel
theorem dX4_bringAll_2 : decode cX4_bringAll 2 = .ok (.iload_n 3, 1) := by decide +kernel
theorem dX4_bringAll_3 : decode cX4_bringAll 3 = .ok (.aload_n 0, 1) := by decide +kernel
theorem dX4_bringAll_4 : decode cX4_bringAll 4 = .ok (.getfield 18, 3) := by decide +kernel
theorem dX4_bringAll_7 : decode cX4_bringAll 7 = .ok (.arraylength, 1) := by decide +kernel
theorem dX4_bringAll_8 : decode cX4_bringAll 8 = .ok (.if_icmp .ge 16, 3) := by decide +kernel
theorem dX4_bringAll_11 : decode cX4_bringAll 11 = .ok (.aload_n 0, 1) := by decide +kernel
theorem dX4_bringAll_12 : decode cX4_bringAll 12 = .ok (.getfield 18, 3) := by decide +kernel
theorem dX4_bringAll_15 : decode cX4_bringAll 15 = .ok (.iload_n 3, 1) := by decide +kernel
theorem dX4_bringAll_16 : decode cX4_bringAll 16 = .ok (.iconst 0, 1) := by decide +kernel
theorem dX4_bringAll_17 : decode cX4_bringAll 17 = .ok (.iastore, 1) := by decide +kernel
theorem dX4_bringAll_18 : decode cX4_bringAll 18 = .ok (.iinc 3 1, 3) := by decide +kernel
theorem dX4_bringAll_21 : decode cX4_bringAll 21 = .ok (.goto (-19), 3) := by decide +kernel
theorem dX4_bringAll_24 : decode cX4_bringAll 24 = .ok (.iconst 0, 1) := by decide +kernel
theorem dX4_bringAll_25 : decode cX4_bringAll 25 = .ok (.istore_n 3, 1) := by decide +kernel
theorem dX4_bringAll_26 : decode cX4_bringAll 26 = .ok (.iconst 0, 1) := by decide +kernel
theorem dX4_bringAll_27 : decode cX4_bringAll 27 = .ok (.istore 4, 2) := by decide +kernel
theorem dX4_bringAll_29 : decode cX4_bringAll 29 = .ok (.iload 4, 2) := by decide +kernel
theorem dX4_bringAll_31 : decode cX4_bringAll 31 = .ok (.aload_n 1, 1) := by decide +kernel
theorem dX4_bringAll_32 : decode cX4_bringAll 32 = .ok (.getfield 21, 3) := by decide +kernel
theorem dX4_bringAll_35 : decode cX4_bringAll 35 = .ok (.if_icmp .ge 35, 3) := by decide +kernel
theorem dX4_bringAll_38 : decode cX4_bringAll 38 = .ok (.iload_n 2, 1) := by decide +kernel
theorem dX4_bringAll_39 : decode cX4_bringAll 39 = .ok (.iload 4, 2) := by decide +kernel
theorem dX4_bringAll_41 : decode cX4_bringAll 41 = .ok (.ishr, 1) := by decide +kernel
theorem dX4_bringAll_42 : decode cX4_bringAll 42 = .ok (.iconst 1, 1) := by decide +kernel
theorem dX4_bringAll_43 : decode cX4_bringAll 43 = .ok (.iand, 1) := by decide +kernel
theorem dX4_bringAll_44 : decode cX4_bringAll 44 = .ok (.ifCond .eq 20, 3) := by decide +kernel
theorem dX4_bringAll_47 : decode cX4_bringAll 47 = .ok (.aload_n 0, 1) := by decide +kernel
theorem dX4_bringAll_48 : decode cX4_bringAll 48 = .ok (.aload_n 1, 1) := by decide +kernel
theorem dX4_bringAll_49 : decode cX4_bringAll 49 = .ok (.aload_n 1, 1) := by decide +kernel
theorem dX4_bringAll_50 : decode cX4_bringAll 50 = .ok (.iload 4, 2) := by decide +kernel
theorem dX4_bringAll_52 : decode cX4_bringAll 52 = .ok (.invokevirtual 35, 3) := by decide +kernel
theorem dX4_bringAll_55 : decode cX4_bringAll 55 = .ok (.invokevirtual 72, 3) := by decide +kernel
theorem dX4_bringAll_58 : decode cX4_bringAll 58 = .ok (.ifCond .eq 6, 3) := by decide +kernel
theorem dX4_bringAll_61 : decode cX4_bringAll 61 = .ok (.iinc 3 1, 3) := by decide +kernel
theorem dX4_bringAll_64 : decode cX4_bringAll 64 = .ok (.iinc 4 1, 3) := by decide +kernel
theorem dX4_bringAll_67 : decode cX4_bringAll 67 = .ok (.goto (-38), 3) := by decide +kernel
theorem dX4_bringAll_70 : decode cX4_bringAll 70 = .ok (.iload_n 3, 1) := by decide +kernel
theorem dX4_bringAll_71 : decode cX4_bringAll 71 = .ok (.aload_n 1, 1) := by decide +kernel
theorem dX4_bringAll_72 : decode cX4_bringAll 72 = .ok (.getfield 76, 3) := by decide +kernel
theorem dX4_bringAll_75 : decode cX4_bringAll 75 = .ok (.if_icmp .ne 7, 3) := by decide +kernel
theorem dX4_bringAll_78 : decode cX4_bringAll 78 = .ok (.iconst 1, 1) := by decide +kernel
theorem dX4_bringAll_79 : decode cX4_bringAll 79 = .ok (.goto 4, 3) := by decide +kernel
theorem dX4_bringAll_82 : decode cX4_bringAll 82 = .ok (.iconst 0, 1) := by decide +kernel
theorem dX4_bringAll_83 : decode cX4_bringAll 83 = .ok (.ireturn, 1) := by decide +kernel
theorem dX4_findPivot_0 : decode cX4_findPivot 0 = .ok (.iload_n 2, 1) := by decide +kernel
theorem dX4_findPivot_1 : decode cX4_findPivot 1 = .ok (.istore_n 3, 1) := by decide +kernel
theorem dX4_findPivot_2 : decode cX4_findPivot 2 = .ok (.iconst 1, 1) := by decide +kernel
theorem dX4_findPivot_3 : decode cX4_findPivot 3 = .ok (.istore 4, 2) := by decide +kernel
theorem dX4_findPivot_5 : decode cX4_findPivot 5 = .ok (.iload 4, 2) := by decide +kernel
theorem dX4_findPivot_7 : decode cX4_findPivot 7 = .ok (.aload_n 1, 1) := by decide +kernel
theorem dX4_findPivot_8 : decode cX4_findPivot 8 = .ok (.getfield 76, 3) := by decide +kernel
theorem dX4_findPivot_11 : decode cX4_findPivot 11 = .ok (.if_icmp .gt 99, 3) := by decide +kernel
theorem dX4_findPivot_14 : decode cX4_findPivot 14 = .ok (.iload 4, 2) := by decide +kernel
theorem dX4_findPivot_16 : decode cX4_findPivot 16 = .ok (.aload_n 0, 1) := by decide +kernel
theorem dX4_findPivot_17 : decode cX4_findPivot 17 = .ok (.getfield 18, 3) := by decide +kernel
theorem dX4_findPivot_20 : decode cX4_findPivot 20 = .ok (.arraylength, 1) := by decide +kernel
theorem dX4_findPivot_21 : decode cX4_findPivot 21 = .ok (.if_icmp .ge 89, 3) := by decide +kernel
theorem dX4_findPivot_24 : decode cX4_findPivot 24 = .ok (.iload_n 3, 1) := by decide +kernel
theorem dX4_findPivot_25 : decode cX4_findPivot 25 = .ok (.iload 4, 2) := by decide +kernel
theorem dX4_findPivot_27 : decode cX4_findPivot 27 = .ok (.invokestatic 79, 3) := by decide +kernel
theorem dX4_findPivot_30 : decode cX4_findPivot 30 = .ok (.istore 5, 2) := by decide +kernel
theorem dX4_findPivot_32 : decode cX4_findPivot 32 = .ok (.iload 5, 2) := by decide +kernel
theorem dX4_findPivot_34 : decode cX4_findPivot 34 = .ok (.ifCond .eq 70, 3) := by decide +kernel
theorem dX4_findPivot_37 : decode cX4_findPivot 37 = .ok (.aload_n 0, 1) := by decide +kernel
theorem dX4_findPivot_38 : decode cX4_findPivot 38 = .ok (.getfield 18, 3) := by decide +kernel
theorem dX4_findPivot_41 : decode cX4_findPivot 41 = .ok (.iload 4, 2) := by decide +kernel
theorem dX4_findPivot_43 : decode cX4_findPivot 43 = .ok (.iaload, 1) := by decide +kernel
theorem dX4_findPivot_44 : decode cX4_findPivot 44 = .ok (.ifCond .ne 13, 3) := by decide +kernel
theorem dX4_findPivot_47 : decode cX4_findPivot 47 = .ok (.aload_n 0, 1) := by decide +kernel
theorem dX4_findPivot_48 : decode cX4_findPivot 48 = .ok (.getfield 18, 3) := by decide +kernel
theorem dX4_findPivot_51 : decode cX4_findPivot 51 = .ok (.iload 4, 2) := by decide +kernel
theorem dX4_findPivot_53 : decode cX4_findPivot 53 = .ok (.iload_n 3, 1) := by decide +kernel
theorem dX4_findPivot_54 : decode cX4_findPivot 54 = .ok (.iastore, 1) := by decide +kernel
theorem dX4_findPivot_55 : decode cX4_findPivot 55 = .ok (.iconst 1, 1) := by decide +kernel
theorem dX4_findPivot_56 : decode cX4_findPivot 56 = .ok (.ireturn, 1) := by decide +kernel
theorem dX4_findPivot_57 : decode cX4_findPivot 57 = .ok (.iload 5, 2) := by decide +kernel
theorem dX4_findPivot_59 : decode cX4_findPivot 59 = .ok (.aload_n 0, 1) := by decide +kernel
theorem dX4_findPivot_60 : decode cX4_findPivot 60 = .ok (.getfield 18, 3) := by decide +kernel
theorem dX4_findPivot_63 : decode cX4_findPivot 63 = .ok (.iload 4, 2) := by decide +kernel
theorem dX4_findPivot_65 : decode cX4_findPivot 65 = .ok (.iaload, 1) := by decide +kernel
theorem dX4_findPivot_66 : decode cX4_findPivot 66 = .ok (.iload 4, 2) := by decide +kernel
theorem dX4_findPivot_68 : decode cX4_findPivot 68 = .ok (.invokestatic 79, 3) := by decide +kernel
theorem dX4_findPivot_71 : decode cX4_findPivot 71 = .ok (.if_icmp .ne 12, 3) := by decide +kernel
theorem dX4_findPivot_74 : decode cX4_findPivot 74 = .ok (.aload_n 1, 1) := by decide +kernel
theorem dX4_findPivot_75 : decode cX4_findPivot 75 = .ok (.getfield 28, 3) := by decide +kernel
theorem dX4_findPivot_78 : decode cX4_findPivot 78 = .ok (.iconst 1, 1) := by decide +kernel
theorem dX4_findPivot_79 : decode cX4_findPivot 79 = .ok (.isub, 1) := by decide +kernel
theorem dX4_findPivot_80 : decode cX4_findPivot 80 = .ok (.goto 4, 3) := by decide +kernel
theorem dX4_findPivot_83 : decode cX4_findPivot 83 = .ok (.iconst 1, 1) := by decide +kernel
theorem dX4_findPivot_84 : decode cX4_findPivot 84 = .ok (.istore 6, 2) := by decide +kernel
theorem dX4_findPivot_86 : decode cX4_findPivot 86 = .ok (.iload_n 3, 1) := by decide +kernel
theorem dX4_findPivot_87 : decode cX4_findPivot 87 = .ok (.aload_n 0, 1) := by decide +kernel
theorem dX4_findPivot_88 : decode cX4_findPivot 88 = .ok (.getfield 18, 3) := by decide +kernel
theorem dX4_findPivot_91 : decode cX4_findPivot 91 = .ok (.iload 4, 2) := by decide +kernel
theorem dX4_findPivot_93 : decode cX4_findPivot 93 = .ok (.iaload, 1) := by decide +kernel
theorem dX4_findPivot_94 : decode cX4_findPivot 94 = .ok (.iload 6, 2) := by decide +kernel
theorem dX4_findPivot_96 : decode cX4_findPivot 96 = .ok (.aload_n 1, 1) := by decide +kernel
theorem dX4_findPivot_97 : decode cX4_findPivot 97 = .ok (.getfield 28, 3) := by decide +kernel
theorem dX4_findPivot_100 : decode cX4_findPivot 100 = .ok (.invokestatic 82, 3) := by decide +kernel
theorem dX4_findPivot_103 : decode cX4_findPivot 103 = .ok (.istore_n 3, 1) := by decide +kernel
theorem dX4_findPivot_104 : decode cX4_findPivot 104 = .ok (.iinc 4 1, 3) := by decide +kernel
theorem dX4_findPivot_107 : decode cX4_findPivot 107 = .ok (.goto (-102), 3) := by decide +kernel
theorem dX4_findPivot_110 : decode cX4_findPivot 110 = .ok (.iconst 0, 1) := by decide +kernel
theorem dX4_findPivot_111 : decode cX4_findPivot 111 = .ok (.ireturn, 1) := by decide +kernel
theorem dX4_added_0 : decode cX4_added 0 = .ok (.iload_n 0, 1) := by decide +kernel
theorem dX4_added_1 : decode cX4_added 1 = .ok (.istore 4, 2) := by decide +kernel
theorem dX4_added_3 : decode cX4_added 3 = .ok (.iconst 0, 1) := by decide +kernel
theorem dX4_added_4 : decode cX4_added 4 = .ok (.istore 5, 2) := by decide +kernel
